theorem dX4_keep_4 : decode cX4_keep 4 = .ok (.aload_n 0, 1) := by decide +kernel
theorem dX4_keep_5 : decode cX4_keep 5 = .ok (.getfield 12, 3) := by decide +kernel
theorem dX4_keep_8 : decode cX4_keep 8 = .ok (.invokevirtual 114, 3) := by decide +kernel
theorem dX4_keep_11 : decode cX4_keep 11 = .ok (.aload_n 0, 1) := by decide +kernel
theorem dX4_keep_12 : decode cX4_keep 12 = .ok (.iconst 1, 1) := by decide +kernel
theorem dX4_keep_13 : decode cX4_keep 13 = .ok (.putfield 22, 3) := by decide +kernel
theorem dX4_keep_16 : decode cX4_keep 16 = .ok (.aload_n 0, 1) := by decide +kernel
theorem dX4_keep_17 : decode cX4_keep 17 = .ok (.getfield 12, 3) := by decide +kernel
theorem dX4_keep_20 : decode cX4_keep 20 = .ok (.invokevirtual 55, 3) := by decide +kernel
theorem dX4_keep_23 : decode cX4_keep 23 = .ok (.ireturn, 1) := by decide +kernel
set_option maxRecDepth 20000 in
theorem ggX4_restore_X4_remember : GoodIn wsX4_restore wsX4_remember := goodIn_r _ [8, 9, 10, 2, 11, 12, 13, 7, 14, 15, 16, 17, 18, 19, 20, 21, 22, 23, 24, 25, 26, 27, 28, 29, 30, 31, 32, 33, 34, 35, 48, 49, 50, 51, 52, 53, 54, 55, 56, 57, 58, 59, 60, 61, 62, 63] (by decide +kernel) (by decide +kernel)
set_option maxRecDepth 20000 in
theorem gX4_restore_X4_remember : GoodIn wsX4_restore (wsV RX4 59 RX4 yX4_remember wsX4_remember) := goodIn_app (goodIn_of _ (by decide +kernel)) ggX4_restore_X4_remember
set_option maxRecDepth 20000 in
theorem ggX4_restore_X3_copyFrom : GoodIn wsX4_restore wsX3_copyFrom := goodIn_r _ [19, 20, 21, 22, 23, 24, 25, 26, 27, 28, 29, 30, 31, 32, 33, 34, 35, 58, 59, 60, 61, 62, 63] (by decide +kernel) (by decide +kernel)
set_option maxRecDepth 20000 in
theorem gX4_restore_X3_copyFrom : GoodIn wsX4_restore (wsV RX4 114 RX3 yX3_copyFrom wsX3_copyFrom) := goodIn_app (goodIn_of _ (by decide +kernel)) ggX4_restore_X3_copyFrom
set_option maxRecDepth 20000 in
theorem ggX4_restore_X3_present : GoodIn wsX4_restore wsX3_present := goodIn_r _ [39, 20, 40, 41, 42, 32, 43, 44, 45, 46, 47, 34, 58, 59, 60, 61, 62, 63] (by decide +kernel) (by decide +kernel)
set_option maxRecDepth 20000 in
theorem gX4_restore_X3_present : GoodIn wsX4_restore (wsV RX4 55 RX3 yX3_present wsX3_present) := goodIn_app (goodIn_of _ (by decide +kernel)) ggX4_restore_X3_present
theorem dX4_restore_0 : decode cX4_restore 0 = .ok (.aload_n 0, 1) := by decide +kernel
theorem dX4_restore_1 : decode cX4_restore 1 = .ok (.getfield 22, 3) := by decide +kernel
theorem dX4_restore_4 : decode cX4_restore 4 = .ok (.ifCond .ne 6, 3) := by decide +kernel
theorem dX4_restore_7 : decode cX4_restore 7 = .ok (.bipush (-5), 2) := by decide +kernel
theorem dX4_restore_9 : decode cX4_restore 9 = .ok (.ireturn, 1) := by decide +kernel
theorem dX4_restore_10 : decode cX4_restore 10 = .ok (.aload_n 0, 1) := by decide +kernel
theorem dX4_restore_11 : decode cX4_restore 11 = .ok (.invokevirtual 59, 3) := by decide +kernel
theorem dX4_restore_14 : decode cX4_restore 14 = .ok (.aload_n 0, 1) := by decide +kernel
theorem dX4_restore_15 : decode cX4_restore 15 = .ok (.getfield 12, 3) := by decide +kernel
theorem dX4_restore_18 : decode cX4_restore 18 = .ok (.aload_n 0, 1) := by decide +kernel
theorem dX4_restore_19 : decode cX4_restore 19 = .ok (.getfield 19, 3) := by decide +kernel
theorem dX4_restore_22 : decode cX4_restore 22 = .ok (.invokevirtual 114, 3) := by decide +kernel
theorem dX4_restore_25 : decode cX4_restore 25 = .ok (.aload_n 0, 1) := by decide +kernel
theorem dX4_restore_26 : decode cX4_restore 26 = .ok (.getfield 12, 3) := by decide +kernel
theorem dX4_restore_29 : decode cX4_restore 29 = .ok (.invokevirtual 55, 3) := by decide +kernel
theorem dX4_restore_32 : decode cX4_restore 32 = .ok (.ireturn, 1) := by decide +kernel
set_option maxRecDepth 20000 in
theorem ggX4_visitor_X4_isVisitor : GoodIn wsX4_visitor wsX4_isVisitor := goodIn_r _ [5] (by decide +kernel) (by decide +kernel)
set_option maxRecDepth 20000 in
theorem gX4_visitor_X4_isVisitor : GoodIn wsX4_visitor (va_wsS RX4 75 yX4_isVisitor wsX4_isVisitor) := goodIn_app (goodIn_of _ (by decide +kernel)) ggX4_visitor_X4_isVisitor
set_option maxRecDepth 20000 in
theorem ggX4_visitor_X1_stage : GoodIn wsX4_visitor wsX1_stage := goodIn_r _ [10, 11, 63] (by decide +kernel) (by decide +kernel)
set_option maxRecDepth 20000 in
theorem gX4_visitor_X1_stage : GoodIn wsX4_visitor (wsV RX4 82 RX1 yX1_stage wsX1_stage) := goodIn_app (goodIn_of _ (by decide +kernel)) ggX4_visitor_X1_stage
set_option maxRecDepth 20000 in
theorem ggX4_visitor_X3_count : GoodIn wsX4_visitor wsX3_count := goodIn_r _ [16, 17, 58, 59, 60, 61, 62] (by decide +kernel) (by decide +kernel)
set_option maxRecDepth 20000 in
theorem gX4_visitor_X3_count : GoodIn wsX4_visitor (wsV RX4 118 RX3 yX3_count wsX3_count) := goodIn_app (goodIn_of _ (by decide +kernel)) ggX4_visitor_X3_count
set_option maxRecDepth 20000 in
theorem ggX4_visitor_X1_nextOf : GoodIn wsX4_visitor wsX1_nextOf := goodIn_r _ [21, 11, 63] (by decide +kernel) (by decide +kernel)
set_option maxRecDepth 20000 in
theorem gX4_visitor_X1_nextOf : GoodIn wsX4_visitor (wsV RX4 122 RX1 yX1_nextOf wsX1_nextOf) := goodIn_app (goodIn_of _ (by decide +kernel)) ggX4_visitor_X1_nextOf
set_option maxRecDepth 20000 in
theorem ggX4_visitor_X1_aheadOf : GoodIn wsX4_visitor wsX1_aheadOf := goodIn_r _ [25, 11, 26, 27, 28, 9, 29, 63] (by decide +kernel) (by decide +kernel)
set_option maxRecDepth 20000 in
theorem gX4_visitor_X1_aheadOf : GoodIn wsX4_visitor (wsV RX4 125 RX1 yX1_aheadOf wsX1_aheadOf) := goodIn_app (goodIn_of _ (by decide +kernel)) ggX4_visitor_X1_aheadOf
set_option maxRecDepth 20000 in
theorem ggX4_visitor_X1_ownCard : GoodIn wsX4_visitor wsX1_ownCard := goodIn_r _ [33, 11, 63] (by decide +kernel) (by decide +kernel)
set_option maxRecDepth 20000 in
theorem gX4_visitor_X1_ownCard : GoodIn wsX4_visitor (wsV RX4 128 RX1 yX1_ownCard wsX1_ownCard) := goodIn_app (goodIn_of _ (by decide +kernel)) ggX4_visitor_X1_ownCard
set_option maxRecDepth 20000 in
theorem ggX4_visitor_X1_ticket : GoodIn wsX4_visitor wsX1_ticket := goodIn_r _ [37, 11, 63] (by decide +kernel) (by decide +kernel)
set_option maxRecDepth 20000 in
theorem gX4_visitor_X1_ticket : GoodIn wsX4_visitor (wsV RX4 131 RX1 yX1_ticket wsX1_ticket) := goodIn_app (goodIn_of _ (by decide +kernel)) ggX4_visitor_X1_ticket
set_option maxRecDepth 20000 in
theorem ggX4_visitor_X1_flagOf : GoodIn wsX4_visitor wsX1_flagOf := goodIn_r _ [41, 11, 26, 27, 28, 9, 29, 63] (by decide +kernel) (by decide +kernel)
set_option maxRecDepth 20000 in
theorem gX4_visitor_X1_flagOf : GoodIn wsX4_visitor (wsV RX4 134 RX1 yX1_flagOf wsX1_flagOf) := goodIn_app (goodIn_of _ (by decide +kernel)) ggX4_visitor_X1_flagOf
set_option maxRecDepth 20000 in
theorem ggX4_visitor_X3_placeOf : GoodIn wsX4_visitor wsX3_placeOf := goodIn_r _ [45, 46, 47, 58, 59, 60, 61, 62] (by decide +kernel) (by decide +kernel)
set_option maxRecDepth 20000 in
theorem gX4_visitor_X3_placeOf : GoodIn wsX4_visitor (wsV RX4 137 RX3 yX3_placeOf wsX3_placeOf) := goodIn_app (goodIn_of _ (by decide +kernel)) ggX4_visitor_X3_placeOf
theorem dX4_visitor_0 : decode cX4_visitor 0 = .ok (.iload_n 1, 1) := by decide +kernel
theorem dX4_visitor_1 : decode cX4_visitor 1 = .ok (.invokestatic 75, 3) := by decide +kernel
theorem dX4_visitor_4 : decode cX4_visitor 4 = .ok (.ifCond .ne 5, 3) := by decide +kernel
theorem dX4_visitor_7 : decode cX4_visitor 7 = .ok (.iconst (-1), 1) := by decide +kernel
theorem dX4_visitor_8 : decode cX4_visitor 8 = .ok (.ireturn, 1) := by decide +kernel
theorem dX4_visitor_9 : decode cX4_visitor 9 = .ok (.iload_n 2, 1) := by decide +kernel
theorem dX4_visitor_10 : decode cX4_visitor 10 = .ok (.tableswitch 182 0 10 #[58, 70, 80, 91, 102, 113, 125, 137, 149, 161, 173], 58) := by decide +kernel
theorem dX4_visitor_68 : decode cX4_visitor 68 = .ok (.aload_n 0, 1) := by decide +kernel
theorem dX4_visitor_69 : decode cX4_visitor 69 = .ok (.getfield 12, 3) := by decide +kernel
theorem dX4_visitor_72 : decode cX4_visitor 72 = .ok (.getfield 62, 3) := by decide +kernel
theorem dX4_visitor_75 : decode cX4_visitor 75 = .ok (.iload_n 1, 1) := by decide +kernel
theorem dX4_visitor_76 : decode cX4_visitor 76 = .ok (.invokevirtual 82, 3) := by decide +kernel
theorem dX4_visitor_79 : decode cX4_visitor 79 = .ok (.ireturn, 1) := by decide +kernel
theorem dX4_visitor_80 : decode cX4_visitor 80 = .ok (.aload_n 0, 1) := by decide +kernel
theorem dX4_visitor_81 : decode cX4_visitor 81 = .ok (.getfield 12, 3) := by decide +kernel
theorem dX4_visitor_84 : decode cX4_visitor 84 = .ok (.iconst 0, 1) := by decide +kernel
theorem dX4_visitor_85 : decode cX4_visitor 85 = .ok (.iload_n 1, 1) := by decide +kernel
theorem dX4_visitor_86 : decode cX4_visitor 86 = .ok (.invokevirtual 118, 3) := by decide +kernel
theorem dX4_visitor_89 : decode cX4_visitor 89 = .ok (.ireturn, 1) := by decide +kernel
theorem dX4_visitor_90 : decode cX4_visitor 90 = .ok (.aload_n 0, 1) := by decide +kernel
theorem dX4_visitor_91 : decode cX4_visitor 91 = .ok (.getfield 12, 3) := by decide +kernel
theorem dX4_visitor_94 : decode cX4_visitor 94 = .ok (.bipush 6, 2) := by decide +kernel
theorem dX4_visitor_96 : decode cX4_visitor 96 = .ok (.iload_n 1, 1) := by decide +kernel
theorem dX4_visitor_97 : decode cX4_visitor 97 = .ok (.invokevirtual 118, 3) := by decide +kernel
theorem dX4_visitor_100 : decode cX4_visitor 100 = .ok (.ireturn, 1) := by decide +kernel
theorem dX4_visitor_101 : decode cX4_visitor 101 = .ok (.aload_n 0, 1) := by decide +kernel
theorem dX4_visitor_102 : decode cX4_visitor 102 = .ok (.getfield 12, 3) := by decide +kernel
theorem dX4_visitor_105 : decode cX4_visitor 105 = .ok (.bipush 12, 2) := by decide +kernel
theorem dX4_visitor_107 : decode cX4_visitor 107 = .ok (.iload_n 1, 1) := by decide +kernel
theorem dX4_visitor_108 : decode cX4_visitor 108 = .ok (.invokevirtual 118, 3) := by decide +kernel
theorem dX4_visitor_111 : decode cX4_visitor 111 = .ok (.ireturn, 1) := by decide +kernel
theorem dX4_visitor_112 : decode cX4_visitor 112 = .ok (.aload_n 0, 1) := by decide +kernel
theorem dX4_visitor_113 : decode cX4_visitor 113 = .ok (.getfield 12, 3) := by decide +kernel
theorem dX4_visitor_116 : decode cX4_visitor 116 = .ok (.bipush 18, 2) := by decide +kernel
theorem dX4_visitor_118 : decode cX4_visitor 118 = .ok (.iload_n 1, 1) := by decide +kernel
theorem dX4_visitor_119 : decode cX4_visitor 119 = .ok (.invokevirtual 118, 3) := by decide +kernel
theorem dX4_visitor_122 : decode cX4_visitor 122 = .ok (.ireturn, 1) := by decide +kernel
theorem dX4_visitor_123 : decode cX4_visitor 123 = .ok (.aload_n 0, 1) := by decide +kernel
theorem dX4_visitor_124 : decode cX4_visitor 124 = .ok (.getfield 12, 3) := by decide +kernel
theorem dX4_visitor_127 : decode cX4_visitor 127 = .ok (.getfield 62, 3) := by decide +kernel
theorem dX4_visitor_130 : decode cX4_visitor 130 = .ok (.iload_n 1, 1) := by decide +kernel
theorem dX4_visitor_131 : decode cX4_visitor 131 = .ok (.invokevirtual 122, 3) := by decide +kernel
theorem dX4_visitor_134 : decode cX4_visitor 134 = .ok (.ireturn, 1) := by decide +kernel
theorem dX4_visitor_135 : decode cX4_visitor 135 = .ok (.aload_n 0, 1) := by decide +kernel
theorem dX4_visitor_136 : decode cX4_visitor 136 = .ok (.getfield 12, 3) := by decide +kernel
theorem dX4_visitor_139 : decode cX4_visitor 139 = .ok (.getfield 62, 3) := by decide +kernel
theorem dX4_visitor_142 : decode cX4_visitor 142 = .ok (.iload_n 1, 1) := by decide +kernel
theorem dX4_visitor_143 : decode cX4_visitor 143 = .ok (.invokevirtual 125, 3) := by decide +kernel
theorem dX4_visitor_146 : decode cX4_visitor 146 = .ok (.ireturn, 1) := by decide +kernel
theorem dX4_visitor_147 : decode cX4_visitor 147 = .ok (.aload_n 0, 1) := by decide +kernel
theorem dX4_visitor_148 : decode cX4_visitor 148 = .ok (.getfield 12, 3) := by decide +kernel
theorem dX4_visitor_151 : decode cX4_visitor 151 = .ok (.getfield 62, 3) := by decide +kernel
theorem dX4_visitor_154 : decode cX4_visitor 154 = .ok (.iload_n 1, 1) := by decide +kernel
theorem dX4_visitor_155 : decode cX4_visitor 155 = .ok (.invokevirtual 128, 3) := by decide +kernel
theorem dX4_visitor_158 : decode cX4_visitor 158 = .ok (.ireturn, 1) := by decide +kernel
theorem dX4_visitor_159 : decode cX4_visitor 159 = .ok (.aload_n 0, 1) := by decide +kernel
theorem dX4_visitor_160 : decode cX4_visitor 160 = .ok (.getfield 12, 3) := by decide +kernel
theorem dX4_visitor_163 : decode cX4_visitor 163 = .ok (.getfield 62, 3) := by decide +kernel
theorem dX4_visitor_166 : decode cX4_visitor 166 = .ok (.iload_n 1, 1) := by decide +kernel
theorem dX4_visitor_167 : decode cX4_visitor 167 = .ok (.invokevirtual 131, 3) := by decide +kernel
theorem dX4_visitor_170 : decode cX4_visitor 170 = .ok (.ireturn, 1) := by decide +kernel
theorem dX4_visitor_171 : decode cX4_visitor 171 = .ok (.aload_n 0, 1) := by decide +kernel
theorem dX4_visitor_172 : decode cX4_visitor 172 = .ok (.getfield 12, 3) := by decide +kernel
theorem dX4_visitor_175 : decode cX4_visitor 175 = .ok (.getfield 62, 3) := by decide +kernel
theorem dX4_visitor_178 : decode cX4_visitor 178 = .ok (.iload_n 1, 1) := by decide +kernel
theorem dX4_visitor_179 : decode cX4_visitor 179 = .ok (.invokevirtual 134, 3) := by decide +kernel
theorem dX4_visitor_182 : decode cX4_visitor 182 = .ok (.ireturn, 1) := by decide +kernel
theorem dX4_visitor_183 : decode cX4_visitor 183 = .ok (.aload_n 0, 1) := by decide +kernel
theorem dX4_visitor_184 : decode cX4_visitor 184 = .ok (.getfield 12, 3) := by decide +kernel
theorem dX4_visitor_187 : decode cX4_visitor 187 = .ok (.iload_n 1, 1) := by decide +kernel
theorem dX4_visitor_188 : decode cX4_visitor 188 = .ok (.invokevirtual 137, 3) := by decide +kernel
theorem dX4_visitor_191 : decode cX4_visitor 191 = .ok (.ireturn, 1) := by decide +kernel
theorem dX4_visitor_192 : decode cX4_visitor 192 = .ok (.bipush (-2), 2) := by decide +kernel
theorem dX4_visitor_194 : decode cX4_visitor 194 = .ok (.ireturn, 1) := by decide +kernel
set_option maxRecDepth 20000 in
theorem ggX4_inLine_X3_visitorAt : GoodIn wsX4_inLine wsX3_visitorAt := goodIn_r _ [6, 7, 8, 19, 20, 21, 22, 23] (by decide +kernel) (by decide +kernel)
set_option maxRecDepth 20000 in
theorem gX4_inLine_X3_visitorAt : GoodIn wsX4_inLine (wsV RX4 140 RX3 yX3_visitorAt wsX3_visitorAt) := goodIn_app (goodIn_of _ (by decide +kernel)) ggX4_inLine_X3_visitorAt
theorem dX4_inLine_0 : decode cX4_inLine 0 = .ok (.iload_n 1, 1) := by decide +kernel
theorem dX4_inLine_1 : decode cX4_inLine 1 = .ok (.ifCond .ge 6, 3) := by decide +kernel
theorem dX4_inLine_4 : decode cX4_inLine 4 = .ok (.bipush (-2), 2) := by decide +kernel
theorem dX4_inLine_6 : decode cX4_inLine 6 = .ok (.ireturn, 1) := by decide +kernel
theorem dX4_inLine_7 : decode cX4_inLine 7 = .ok (.aload_n 0, 1) := by decide +kernel
theorem dX4_inLine_8 : decode cX4_inLine 8 = .ok (.getfield 12, 3) := by decide +kernel
theorem dX4_inLine_11 : decode cX4_inLine 11 = .ok (.iload_n 1, 1) := by decide +kernel
theorem dX4_inLine_12 : decode cX4_inLine 12 = .ok (.invokevirtual 140, 3) := by decide +kernel
theorem dX4_inLine_15 : decode cX4_inLine 15 = .ok (.ireturn, 1) := by decide +kernel
set_option maxRecDepth 20000 in
theorem ggX4_card_X4_isCard : GoodIn wsX4_card wsX4_isCard := goodIn_r _ [5] (by decide +kernel) (by decide +kernel)
set_option maxRecDepth 20000 in
theorem gX4_card_X4_isCard : GoodIn wsX4_card (va_wsS RX4 141 yX4_isCard wsX4_isCard) := goodIn_app (goodIn_of _ (by decide +kernel)) ggX4_card_X4_isCard
set_option maxRecDepth 20000 in
theorem ggX4_card_X1_kind : GoodIn wsX4_card wsX1_kind := goodIn_r _ [10, 11, 31] (by decide +kernel) (by decide +kernel)
set_option maxRecDepth 20000 in
theorem gX4_card_X1_kind : GoodIn wsX4_card (wsV RX4 66 RX1 yX1_kind wsX1_kind) := goodIn_app (goodIn_of _ (by decide +kernel)) ggX4_card_X1_kind
set_option maxRecDepth 20000 in
theorem ggX4_card_X1_cardFlag : GoodIn wsX4_card wsX1_cardFlag := goodIn_r _ [15, 11, 3, 4, 5, 31] (by decide +kernel) (by decide +kernel)
set_option maxRecDepth 20000 in
theorem gX4_card_X1_cardFlag : GoodIn wsX4_card (wsV RX4 144 RX1 yX1_cardFlag wsX1_cardFlag) := goodIn_app (goodIn_of _ (by decide +kernel)) ggX4_card_X1_cardFlag
theorem dX4_card_0 : decode cX4_card 0 = .ok (.iload_n 1, 1) := by decide +kernel
theorem dX4_card_1 : decode cX4_card 1 = .ok (.invokestatic 141, 3) := by decide +kernel
theorem dX4_card_4 : decode cX4_card 4 = .ok (.ifCond .ne 5, 3) := by decide +kernel
theorem dX4_card_7 : decode cX4_card 7 = .ok (.iconst (-1), 1) := by decide +kernel
theorem dX4_card_8 : decode cX4_card 8 = .ok (.ireturn, 1) := by decide +kernel
theorem dX4_card_9 : decode cX4_card 9 = .ok (.aload_n 0, 1) := by decide +kernel
theorem dX4_card_10 : decode cX4_card 10 = .ok (.getfield 12, 3) := by decide +kernel
theorem dX4_card_13 : decode cX4_card 13 = .ok (.getfield 62, 3) := by decide +kernel
theorem dX4_card_16 : decode cX4_card 16 = .ok (.invokevirtual 66, 3) := by decide +kernel
theorem dX4_card_19 : decode cX4_card 19 = .ok (.iconst 1, 1) := by decide +kernel
theorem dX4_card_20 : decode cX4_card 20 = .ok (.if_icmp .eq 6, 3) := by decide +kernel
theorem dX4_card_23 : decode cX4_card 23 = .ok (.bipush (-5), 2) := by decide +kernel
theorem dX4_card_25 : decode cX4_card 25 = .ok (.ireturn, 1) := by decide +kernel
theorem dX4_card_26 : decode cX4_card 26 = .ok (.aload_n 0, 1) := by decide +kernel
theorem dX4_card_27 : decode cX4_card 27 = .ok (.getfield 12, 3) := by decide +kernel
theorem dX4_card_30 : decode cX4_card 30 = .ok (.getfield 62, 3) := by decide +kernel
theorem dX4_card_33 : decode cX4_card 33 = .ok (.iload_n 1, 1) := by decide +kernel
theorem dX4_card_34 : decode cX4_card 34 = .ok (.invokevirtual 144, 3) := by decide +kernel
theorem dX4_card_37 : decode cX4_card 37 = .ok (.ireturn, 1) := by decide +kernel
set_option maxRecDepth 20000 in
theorem ggX4_total_X1_kind : GoodIn wsX4_total wsX1_kind := goodIn_r _ [8, 9, 66] (by decide +kernel) (by decide +kernel)
set_option maxRecDepth 20000 in
theorem gX4_total_X1_kind : GoodIn wsX4_total (wsV RX4 66 RX1 yX1_kind wsX1_kind) := goodIn_app (goodIn_of _ (by decide +kernel)) ggX4_total_X1_kind
set_option maxRecDepth 20000 in
theorem ggX4_total_X1_whoIsInside : GoodIn wsX4_total wsX1_whoIsInside := goodIn_r _ [13, 14, 15, 16, 7, 17, 9, 66] (by decide +kernel) (by decide +kernel)
set_option maxRecDepth 20000 in
theorem gX4_total_X1_whoIsInside : GoodIn wsX4_total (wsV RX4 147 RX1 yX1_whoIsInside wsX1_whoIsInside) := goodIn_app (goodIn_of _ (by decide +kernel)) ggX4_total_X1_whoIsInside
set_option maxRecDepth 20000 in
theorem ggX4_total_X1_tail : GoodIn wsX4_total wsX1_tail := goodIn_r _ [21, 9, 66] (by decide +kernel) (by decide +kernel)
set_option maxRecDepth 20000 in
theorem gX4_total_X1_tail : GoodIn wsX4_total (wsV RX4 150 RX1 yX1_tail wsX1_tail) := goodIn_app (goodIn_of _ (by decide +kernel)) ggX4_total_X1_tail
set_option maxRecDepth 20000 in
theorem ggX4_total_X3_present : GoodIn wsX4_total wsX3_present := goodIn_r _ [26, 27, 28, 29, 30, 7, 31, 14, 15, 16, 17, 9, 61, 62, 63, 64, 65, 66] (by decide +kernel) (by decide +kernel)
set_option maxRecDepth 20000 in
theorem gX4_total_X3_present : GoodIn wsX4_total (wsV RX4 55 RX3 yX3_present wsX3_present) := goodIn_app (goodIn_of _ (by decide +kernel)) ggX4_total_X3_present
set_option maxRecDepth 20000 in
theorem ggX4_total_X1_countAt : GoodIn wsX4_total wsX1_countAt := goodIn_r _ [31, 14, 15, 16, 7, 17, 9, 66] (by decide +kernel) (by decide +kernel)
set_option maxRecDepth 20000 in
theorem gX4_total_X1_countAt : GoodIn wsX4_total (wsV RX4 153 RX1 yX1_countAt wsX1_countAt) := goodIn_app (goodIn_of _ (by decide +kernel)) ggX4_total_X1_countAt
set_option maxRecDepth 20000 in
theorem ggX4_total_X3_sum : GoodIn wsX4_total wsX3_sum := goodIn_r _ [36, 37, 61, 62, 63, 64, 65] (by decide +kernel) (by decide +kernel)
set_option maxRecDepth 20000 in
theorem gX4_total_X3_sum : GoodIn wsX4_total (wsV RX4 92 RX3 yX3_sum wsX3_sum) := goodIn_app (goodIn_of _ (by decide +kernel)) ggX4_total_X3_sum
set_option maxRecDepth 20000 in
theorem ggX4_total_X1_given : GoodIn wsX4_total wsX1_given := goodIn_r _ [41, 9, 42, 5, 6, 7, 8, 66] (by decide +kernel) (by decide +kernel)
set_option maxRecDepth 20000 in
theorem gX4_total_X1_given : GoodIn wsX4_total (wsV RX4 156 RX1 yX1_given wsX1_given) := goodIn_app (goodIn_of _ (by decide +kernel)) ggX4_total_X1_given
set_option maxRecDepth 20000 in
theorem ggX4_total_X1_served : GoodIn wsX4_total wsX1_served := goodIn_r _ [46, 9, 42, 5, 6, 7, 8, 66] (by decide +kernel) (by decide +kernel)
set_option maxRecDepth 20000 in
theorem gX4_total_X1_served : GoodIn wsX4_total (wsV RX4 159 RX1 yX1_served wsX1_served) := goodIn_app (goodIn_of _ (by decide +kernel)) ggX4_total_X1_served
set_option maxRecDepth 20000 in
theorem ggX4_total_X1_grabFlag : GoodIn wsX4_total wsX1_grabFlag := goodIn_r _ [50, 9, 42, 5, 6, 7, 8, 66] (by decide +kernel) (by decide +kernel)
set_option maxRecDepth 20000 in
theorem gX4_total_X1_grabFlag : GoodIn wsX4_total (wsV RX4 162 RX1 yX1_grabFlag wsX1_grabFlag) := goodIn_app (goodIn_of _ (by decide +kernel)) ggX4_total_X1_grabFlag
theorem dX4_total_0 : decode cX4_total 0 = .ok (.iload_n 1, 1) := by decide +kernel
theorem dX4_total_1 : decode cX4_total 1 = .ok (.tableswitch 218 0 14 #[75, 86, 97, 108, 116, 128, 137, 147, 157, 167, 178, 189, 200, 208, 213], 75) := by decide +kernel
theorem dX4_total_76 : decode cX4_total 76 = .ok (.aload_n 0, 1) := by decide +kernel
theorem dX4_total_77 : decode cX4_total 77 = .ok (.getfield 12, 3) := by decide +kernel
theorem dX4_total_80 : decode cX4_total 80 = .ok (.getfield 62, 3) := by decide +kernel
theorem dX4_total_83 : decode cX4_total 83 = .ok (.invokevirtual 66, 3) := by decide +kernel
theorem dX4_total_86 : decode cX4_total 86 = .ok (.ireturn, 1) := by decide +kernel
theorem dX4_total_87 : decode cX4_total 87 = .ok (.aload_n 0, 1) := by decide +kernel
theorem dX4_total_88 : decode cX4_total 88 = .ok (.getfield 12, 3) := by decide +kernel
theorem dX4_total_91 : decode cX4_total 91 = .ok (.getfield 62, 3) := by decide +kernel
theorem dX4_total_94 : decode cX4_total 94 = .ok (.invokevirtual 147, 3) := by decide +kernel
theorem dX4_total_97 : decode cX4_total 97 = .ok (.ireturn, 1) := by decide +kernel
theorem dX4_total_98 : decode cX4_total 98 = .ok (.aload_n 0, 1) := by decide +kernel
theorem dX4_total_99 : decode cX4_total 99 = .ok (.getfield 12, 3) := by decide +kernel
theorem dX4_total_102 : decode cX4_total 102 = .ok (.getfield 62, 3) := by decide +kernel
theorem dX4_total_105 : decode cX4_total 105 = .ok (.invokevirtual 150, 3) := by decide +kernel
theorem dX4_total_108 : decode cX4_total 108 = .ok (.ireturn, 1) := by decide +kernel
theorem dX4_total_109 : decode cX4_total 109 = .ok (.aload_n 0, 1) := by decide +kernel
theorem dX4_total_110 : decode cX4_total 110 = .ok (.getfield 12, 3) := by decide +kernel
theorem dX4_total_113 : decode cX4_total 113 = .ok (.invokevirtual 55, 3) := by decide +kernel
theorem dX4_total_116 : decode cX4_total 116 = .ok (.ireturn, 1) := by decide +kernel
theorem dX4_total_117 : decode cX4_total 117 = .ok (.aload_n 0, 1) := by decide +kernel
theorem dX4_total_118 : decode cX4_total 118 = .ok (.getfield 12, 3) := by decide +kernel
theorem dX4_total_121 : decode cX4_total 121 = .ok (.getfield 62, 3) := by decide +kernel
theorem dX4_total_124 : decode cX4_total 124 = .ok (.iconst 2, 1) := by decide +kernel
theorem dX4_total_125 : decode cX4_total 125 = .ok (.invokevirtual 153, 3) := by decide +kernel
theorem dX4_total_128 : decode cX4_total 128 = .ok (.ireturn, 1) := by decide +kernel
theorem dX4_total_129 : decode cX4_total 129 = .ok (.aload_n 0, 1) := by decide +kernel
theorem dX4_total_130 : decode cX4_total 130 = .ok (.getfield 12, 3) := by decide +kernel
theorem dX4_total_133 : decode cX4_total 133 = .ok (.iconst 0, 1) := by decide +kernel
theorem dX4_total_134 : decode cX4_total 134 = .ok (.invokevirtual 92, 3) := by decide +kernel
theorem dX4_total_137 : decode cX4_total 137 = .ok (.ireturn, 1) := by decide +kernel
theorem dX4_total_138 : decode cX4_total 138 = .ok (.aload_n 0, 1) := by decide +kernel
theorem dX4_total_139 : decode cX4_total 139 = .ok (.getfield 12, 3) := by decide +kernel
theorem dX4_total_142 : decode cX4_total 142 = .ok (.bipush 6, 2) := by decide +kernel
theorem dX4_total_144 : decode cX4_total 144 = .ok (.invokevirtual 92, 3) := by decide +kernel
theorem dX4_total_147 : decode cX4_total 147 = .ok (.ireturn, 1) := by decide +kernel
theorem dX4_total_148 : decode cX4_total 148 = .ok (.aload_n 0, 1) := by decide +kernel
theorem dX4_total_149 : decode cX4_total 149 = .ok (.getfield 12, 3) := by decide +kernel
theorem dX4_total_152 : decode cX4_total 152 = .ok (.bipush 12, 2) := by decide +kernel
theorem dX4_total_154 : decode cX4_total 154 = .ok (.invokevirtual 92, 3) := by decide +kernel
theorem dX4_total_157 : decode cX4_total 157 = .ok (.ireturn, 1) := by decide +kernel
theorem dX4_total_158 : decode cX4_total 158 = .ok (.aload_n 0, 1) := by decide +kernel
theorem dX4_total_159 : decode cX4_total 159 = .ok (.getfield 12, 3) := by decide +kernel
theorem dX4_total_162 : decode cX4_total 162 = .ok (.bipush 18, 2) := by decide +kernel
theorem dX4_total_164 : decode cX4_total 164 = .ok (.invokevirtual 92, 3) := by decide +kernel
theorem dX4_total_167 : decode cX4_total 167 = .ok (.ireturn, 1) := by decide +kernel
theorem dX4_total_168 : decode cX4_total 168 = .ok (.aload_n 0, 1) := by decide +kernel
theorem dX4_total_169 : decode cX4_total 169 = .ok (.getfield 12, 3) := by decide +kernel
theorem dX4_total_172 : decode cX4_total 172 = .ok (.getfield 62, 3) := by decide +kernel
theorem dX4_total_175 : decode cX4_total 175 = .ok (.invokevirtual 156, 3) := by decide +kernel
theorem dX4_total_178 : decode cX4_total 178 = .ok (.ireturn, 1) := by decide +kernel
theorem dX4_total_179 : decode cX4_total 179 = .ok (.aload_n 0, 1) := by decide +kernel
theorem dX4_total_180 : decode cX4_total 180 = .ok (.getfield 12, 3) := by decide +kernel
theorem dX4_total_183 : decode cX4_total 183 = .ok (.getfield 62, 3) := by decide +kernel
theorem dX4_total_186 : decode cX4_total 186 = .ok (.invokevirtual 159, 3) := by decide +kernel
theorem dX4_total_189 : decode cX4_total 189 = .ok (.ireturn, 1) := by decide +kernel
theorem dX4_total_190 : decode cX4_total 190 = .ok (.aload_n 0, 1) := by decide +kernel
theorem dX4_total_191 : decode cX4_total 191 = .ok (.getfield 12, 3) := by decide +kernel
theorem dX4_total_194 : decode cX4_total 194 = .ok (.getfield 62, 3) := by decide +kernel
theorem dX4_total_197 : decode cX4_total 197 = .ok (.invokevirtual 162, 3) := by decide +kernel
theorem dX4_total_200 : decode cX4_total 200 = .ok (.ireturn, 1) := by decide +kernel
theorem dX4_total_201 : decode cX4_total 201 = .ok (.aload_n 0, 1) := by decide +kernel
theorem dX4_total_202 : decode cX4_total 202 = .ok (.getfield 12, 3) := by decide +kernel
theorem dX4_total_205 : decode cX4_total 205 = .ok (.getfield 98, 3) := by decide +kernel
theorem dX4_total_208 : decode cX4_total 208 = .ok (.ireturn, 1) := by decide +kernel
theorem dX4_total_209 : decode cX4_total 209 = .ok (.aload_n 0, 1) := by decide +kernel
theorem dX4_total_210 : decode cX4_total 210 = .ok (.getfield 30, 3) := by decide +kernel
theorem dX4_total_213 : decode cX4_total 213 = .ok (.ireturn, 1) := by decide +kernel
theorem dX4_total_214 : decode cX4_total 214 = .ok (.aload_n 0, 1) := by decide +kernel
theorem dX4_total_215 : decode cX4_total 215 = .ok (.getfield 38, 3) := by decide +kernel
theorem dX4_total_218 : decode cX4_total 218 = .ok (.ireturn, 1) := by decide +kernel
theorem dX4_total_219 : decode cX4_total 219 = .ok (.bipush (-2), 2) := by decide +kernel
theorem dX4_total_221 : decode cX4_total 221 = .ok (.ireturn, 1) := by decide +kernel
set_option maxRecDepth 20000 in
theorem ggX4_wouldLook_X4_isVisitor : GoodIn wsX4_wouldLook wsX4_isVisitor := goodIn_r _ [5] (by decide +kernel) (by decide +kernel)
set_option maxRecDepth 20000 in
theorem gX4_wouldLook_X4_isVisitor : GoodIn wsX4_wouldLook (va_wsS RX4 75 yX4_isVisitor wsX4_isVisitor) := goodIn_app (goodIn_of _ (by decide +kernel)) ggX4_wouldLook_X4_isVisitor
set_option maxRecDepth 20000 in
theorem ggX4_wouldLook_X1_waits : GoodIn wsX4_wouldLook wsX1_waits := goodIn_r _ [10, 11, 12, 13, 14, 9, 15, 16, 17, 18, 19, 20, 21, 22, 23, 24, 25, 26, 27, 28, 4, 29, 45] (by decide +kernel) (by decide +kernel)
set_option maxRecDepth 20000 in
theorem gX4_wouldLook_X1_waits : GoodIn wsX4_wouldLook (wsV RX4 86 RX1 yX1_waits wsX1_waits) := goodIn_app (goodIn_of _ (by decide +kernel)) ggX4_wouldLook_X1_waits
theorem dX4_wouldLook_0 : decode cX4_wouldLook 0 = .ok (.iload_n 1, 1) := by decide +kernel
theorem dX4_wouldLook_1 : decode cX4_wouldLook 1 = .ok (.invokestatic 75, 3) := by decide +kernel
theorem dX4_wouldLook_4 : decode cX4_wouldLook 4 = .ok (.ifCond .ne 5, 3) := by decide +kernel
theorem dX4_wouldLook_7 : decode cX4_wouldLook 7 = .ok (.iconst (-1), 1) := by decide +kernel
theorem dX4_wouldLook_8 : decode cX4_wouldLook 8 = .ok (.ireturn, 1) := by decide +kernel
theorem dX4_wouldLook_9 : decode cX4_wouldLook 9 = .ok (.aload_n 0, 1) := by decide +kernel
theorem dX4_wouldLook_10 : decode cX4_wouldLook 10 = .ok (.getfield 12, 3) := by decide +kernel
theorem dX4_wouldLook_13 : decode cX4_wouldLook 13 = .ok (.getfield 62, 3) := by decide +kernel
theorem dX4_wouldLook_16 : decode cX4_wouldLook 16 = .ok (.iload_n 1, 1) := by decide +kernel
theorem dX4_wouldLook_17 : decode cX4_wouldLook 17 = .ok (.invokevirtual 86, 3) := by decide +kernel
theorem dX4_wouldLook_20 : decode cX4_wouldLook 20 = .ok (.ifCond .eq 7, 3) := by decide +kernel
theorem dX4_wouldLook_23 : decode cX4_wouldLook 23 = .ok (.iconst 1, 1) := by decide +kernel
theorem dX4_wouldLook_24 : decode cX4_wouldLook 24 = .ok (.goto 4, 3) := by decide +kernel
theorem dX4_wouldLook_27 : decode cX4_wouldLook 27 = .ok (.iconst 0, 1) := by decide +kernel
theorem dX4_wouldLook_28 : decode cX4_wouldLook 28 = .ok (.ireturn, 1) := by decide +kernel
set_option maxRecDepth 20000 in
theorem ggX4_wouldTouch_X4_isVisitor : GoodIn wsX4_wouldTouch wsX4_isVisitor := goodIn_r _ [5] (by decide +kernel) (by decide +kernel)
set_option maxRecDepth 20000 in
theorem gX4_wouldTouch_X4_isVisitor : GoodIn wsX4_wouldTouch (va_wsS RX4 75 yX4_isVisitor wsX4_isVisitor) := goodIn_app (goodIn_of _ (by decide +kernel)) ggX4_wouldTouch_X4_isVisitor
set_option maxRecDepth 20000 in
theorem ggX4_wouldTouch_X1_touches : GoodIn wsX4_wouldTouch wsX1_touches := goodIn_r _ [10, 11, 12, 13, 14, 9, 15, 16, 17, 18, 19, 20, 36] (by decide +kernel) (by decide +kernel)
set_option maxRecDepth 20000 in
theorem gX4_wouldTouch_X1_touches : GoodIn wsX4_wouldTouch (wsV RX4 165 RX1 yX1_touches wsX1_touches) := goodIn_app (goodIn_of _ (by decide +kernel)) ggX4_wouldTouch_X1_touches
theorem dX4_wouldTouch_0 : decode cX4_wouldTouch 0 = .ok (.iload_n 1, 1) := by decide +kernel
theorem dX4_wouldTouch_1 : decode cX4_wouldTouch 1 = .ok (.invokestatic 75, 3) := by decide +kernel
theorem dX4_wouldTouch_4 : decode cX4_wouldTouch 4 = .ok (.ifCond .ne 5, 3) := by decide +kernel
theorem dX4_wouldTouch_7 : decode cX4_wouldTouch 7 = .ok (.iconst (-1), 1) := by decide +kernel
theorem dX4_wouldTouch_8 : decode cX4_wouldTouch 8 = .ok (.ireturn, 1) := by decide +kernel
theorem dX4_wouldTouch_9 : decode cX4_wouldTouch 9 = .ok (.aload_n 0, 1) := by decide +kernel
theorem dX4_wouldTouch_10 : decode cX4_wouldTouch 10 = .ok (.getfield 12, 3) := by decide +kernel
theorem dX4_wouldTouch_13 : decode cX4_wouldTouch 13 = .ok (.getfield 62, 3) := by decide +kernel
theorem dX4_wouldTouch_16 : decode cX4_wouldTouch 16 = .ok (.iload_n 1, 1) := by decide +kernel
theorem dX4_wouldTouch_17 : decode cX4_wouldTouch 17 = .ok (.invokevirtual 165, 3) := by decide +kernel
theorem dX4_wouldTouch_20 : decode cX4_wouldTouch 20 = .ok (.ireturn, 1) := by decide +kernel
set_option maxRecDepth 20000 in
theorem ggX4_stepsToFinish_X3_copyFrom : GoodIn wsX4_stepsToFinish wsX3_copyFrom := goodIn_r _ [7, 8, 9, 10, 11, 12, 13, 14, 15, 16, 17, 18, 19, 20, 21, 22, 23, 135, 136, 137, 138, 139, 140] (by decide +kernel) (by decide +kernel)
set_option maxRecDepth 20000 in
theorem gX4_stepsToFinish_X3_copyFrom : GoodIn wsX4_stepsToFinish (wsV RX4 114 RX3 yX3_copyFrom wsX3_copyFrom) := goodIn_app (goodIn_of _ (by decide +kernel)) ggX4_stepsToFinish_X3_copyFrom
set_option maxRecDepth 20000 in
theorem ggX4_stepsToFinish_X3_advanceAll : GoodIn wsX4_stepsToFinish wsX3_advanceAll := goodIn_r _ [27, 28, 8, 29, 30, 31, 6, 32, 33, 34, 35, 20, 36, 37, 38, 39, 40, 22, 41, 42, 43, 44, 45, 9, 46, 47, 48, 49, 50, 51, 52, 53, 54, 55, 56, 57, 58, 59, 60, 61, 62, 63, 64, 65, 66, 67, 68, 69, 70, 71, 72, 73, 74, 75, 76, 77, 78, 79, 80, 81, 82, 83, 84, 85, 86, 87, 88, 89, 90, 91, 92, 93, 94, 95, 96, 97, 98, 99, 100, 101, 102, 103, 104, 105, 106, 107, 108, 109, 110, 111, 112, 113, 114, 115, 116, 117, 118, 119, 120, 15, 14, 121, 122, 123, 124, 135, 136, 137, 138, 139, 140] (by decide +kernel) (by decide +kernel)
set_option maxRecDepth 20000 in
theorem gX4_stepsToFinish_X3_advanceAll : GoodIn wsX4_stepsToFinish (wsV RX4 111 RX3 yX3_advanceAll wsX3_advanceAll) := goodIn_app (goodIn_of _ (by decide +kernel)) ggX4_stepsToFinish_X3_advanceAll
theorem dX4_stepsToFinish_0 : decode cX4_stepsToFinish 0 = .ok (.aload_n 0, 1) := by decide +kernel
theorem dX4_stepsToFinish_1 : decode cX4_stepsToFinish 1 = .ok (.getfield 16, 3) := by decide +kernel
theorem dX4_stepsToFinish_4 : decode cX4_stepsToFinish 4 = .ok (.aload_n 0, 1) := by decide +kernel
theorem dX4_stepsToFinish_5 : decode cX4_stepsToFinish 5 = .ok (.getfield 12, 3) := by decide +kernel
theorem dX4_stepsToFinish_8 : decode cX4_stepsToFinish 8 = .ok (.invokevirtual 114, 3) := by decide +kernel
theorem dX4_stepsToFinish_11 : decode cX4_stepsToFinish 11 = .ok (.aload_n 0, 1) := by decide +kernel
theorem dX4_stepsToFinish_12 : decode cX4_stepsToFinish 12 = .ok (.getfield 16, 3) := by decide +kernel
theorem dX4_stepsToFinish_15 : decode cX4_stepsToFinish 15 = .ok (.invokevirtual 111, 3) := by decide +kernel
theorem dX4_stepsToFinish_18 : decode cX4_stepsToFinish 18 = .ok (.ireturn, 1) := by decide +kernel
set_option maxRecDepth 20000 in
theorem ggX4_orders_X4_isVisitor : GoodIn wsX4_orders wsX4_isVisitor := goodIn_r _ [6] (by decide +kernel) (by decide +kernel)
set_option maxRecDepth 20000 in
theorem gX4_orders_X4_isVisitor : GoodIn wsX4_orders (va_wsS RX4 75 yX4_isVisitor wsX4_isVisitor) := goodIn_app (goodIn_of _ (by decide +kernel)) ggX4_orders_X4_isVisitor
set_option maxRecDepth 20000 in
theorem ggX4_orders_X0_explore : GoodIn wsX4_orders wsX0_explore := goodIn_r _ [11, 12, 13, 14, 15, 16, 17, 18, 19, 20, 21, 22, 23, 24, 25, 26, 10, 27, 28, 29, 30, 31, 32, 33, 34, 35, 36, 37, 38, 39, 40, 41, 42, 43, 44, 45, 46, 47, 48, 49, 50, 51, 52, 53, 54, 55, 56, 57, 58, 59, 60, 61, 62, 63, 64, 65, 66, 67, 68, 69, 70, 71, 5, 72, 73, 74, 75, 76, 77, 78, 79, 80, 81, 82, 83, 84, 4, 6, 85, 86, 87, 88, 89, 90, 91, 92, 93, 94, 95, 96, 97, 98, 99, 100, 101, 102, 103, 104, 105, 106, 107, 108, 109, 110, 111, 112, 113, 114, 115, 116, 117, 150, 151, 152, 153, 154] (by decide +kernel) (by decide +kernel)
set_option maxRecDepth 20000 in
theorem gX4_orders_X0_explore : GoodIn wsX4_orders (wsV RX4 168 RX0 yX0_explore wsX0_explore) := goodIn_app (goodIn_of _ (by decide +kernel)) ggX4_orders_X0_explore
set_option maxRecDepth 20000 in
theorem ggX4_orders_X0_found : GoodIn wsX4_orders wsX0_found := goodIn_r _ [121, 12, 150, 151, 152, 153] (by decide +kernel) (by decide +kernel)
set_option maxRecDepth 20000 in
theorem gX4_orders_X0_found : GoodIn wsX4_orders (wsV RX4 172 RX0 yX0_found wsX0_found) := goodIn_app (goodIn_of _ (by decide +kernel)) ggX4_orders_X0_found
set_option maxRecDepth 20000 in
theorem ggX4_orders_X0_countBothInside : GoodIn wsX4_orders wsX0_countBothInside := goodIn_r _ [125, 12, 28, 109, 56, 57, 17, 58, 19, 150, 151, 152, 153, 154] (by decide +kernel) (by decide +kernel)
set_option maxRecDepth 20000 in
theorem gX4_orders_X0_countBothInside : GoodIn wsX4_orders (wsV RX4 175 RX0 yX0_countBothInside wsX0_countBothInside) := goodIn_app (goodIn_of _ (by decide +kernel)) ggX4_orders_X0_countBothInside
set_option maxRecDepth 20000 in
theorem ggX4_orders_X0_countStuck : GoodIn wsX4_orders wsX0_countStuck := goodIn_r _ [129, 12, 130, 131, 132, 10, 133, 28, 31, 134, 52, 53, 17, 54, 19, 55, 56, 57, 58, 59, 60, 61, 62, 63, 64, 65, 66, 67, 68, 69, 70, 71, 5, 72, 150, 151, 152, 153, 154] (by decide +kernel) (by decide +kernel)
set_option maxRecDepth 20000 in
theorem gX4_orders_X0_countStuck : GoodIn wsX4_orders (wsV RX4 178 RX0 yX0_countStuck wsX0_countStuck) := goodIn_app (goodIn_of _ (by decide +kernel)) ggX4_orders_X0_countStuck
theorem dX4_orders_0 : decode cX4_orders 0 = .ok (.iload_n 1, 1) := by decide +kernel
theorem dX4_orders_1 : decode cX4_orders 1 = .ok (.invokestatic 75, 3) := by decide +kernel
theorem dX4_orders_4 : decode cX4_orders 4 = .ok (.ifCond .eq 10, 3) := by decide +kernel
theorem dX4_orders_7 : decode cX4_orders 7 = .ok (.iload_n 2, 1) := by decide +kernel
theorem dX4_orders_8 : decode cX4_orders 8 = .ok (.invokestatic 75, 3) := by decide +kernel
theorem dX4_orders_11 : decode cX4_orders 11 = .ok (.ifCond .ne 5, 3) := by decide +kernel
theorem dX4_orders_14 : decode cX4_orders 14 = .ok (.iconst (-1), 1) := by decide +kernel
theorem dX4_orders_15 : decode cX4_orders 15 = .ok (.ireturn, 1) := by decide +kernel
theorem dX4_orders_16 : decode cX4_orders 16 = .ok (.iload_n 3, 1) := by decide +kernel
theorem dX4_orders_17 : decode cX4_orders 17 = .ok (.ifCond .lt 13, 3) := by decide +kernel
theorem dX4_orders_20 : decode cX4_orders 20 = .ok (.iload_n 3, 1) := by decide +kernel
theorem dX4_orders_21 : decode cX4_orders 21 = .ok (.iconst 2, 1) := by decide +kernel
theorem dX4_orders_22 : decode cX4_orders 22 = .ok (.if_icmp .gt 8, 3) := by decide +kernel
theorem dX4_orders_25 : decode cX4_orders 25 = .ok (.iload_n 1, 1) := by decide +kernel
theorem dX4_orders_26 : decode cX4_orders 26 = .ok (.iload_n 2, 1) := by decide +kernel
theorem dX4_orders_27 : decode cX4_orders 27 = .ok (.if_icmp .ne 6, 3) := by decide +kernel
theorem dX4_orders_30 : decode cX4_orders 30 = .ok (.bipush (-2), 2) := by decide +kernel
theorem dX4_orders_32 : decode cX4_orders 32 = .ok (.ireturn, 1) := by decide +kernel
theorem dX4_orders_33 : decode cX4_orders 33 = .ok (.aload_n 0, 1) := by decide +kernel
theorem dX4_orders_34 : decode cX4_orders 34 = .ok (.getfield 51, 3) := by decide +kernel
theorem dX4_orders_37 : decode cX4_orders 37 = .ok (.aload_n 0, 1) := by decide +kernel
theorem dX4_orders_38 : decode cX4_orders 38 = .ok (.getfield 12, 3) := by decide +kernel
theorem dX4_orders_41 : decode cX4_orders 41 = .ok (.getfield 62, 3) := by decide +kernel
theorem dX4_orders_44 : decode cX4_orders 44 = .ok (.iload_n 1, 1) := by decide +kernel
theorem dX4_orders_45 : decode cX4_orders 45 = .ok (.iload_n 2, 1) := by decide +kernel
theorem dX4_orders_46 : decode cX4_orders 46 = .ok (.invokevirtual 168, 3) := by decide +kernel
theorem dX4_orders_49 : decode cX4_orders 49 = .ok (.ifCond .ne 6, 3) := by decide +kernel
theorem dX4_orders_52 : decode cX4_orders 52 = .ok (.bipush (-5), 2) := by decide +kernel
theorem dX4_orders_54 : decode cX4_orders 54 = .ok (.ireturn, 1) := by decide +kernel
theorem dX4_orders_55 : decode cX4_orders 55 = .ok (.iload_n 3, 1) := by decide +kernel
theorem dX4_orders_56 : decode cX4_orders 56 = .ok (.lookupswitch 46 #[(0, 28), (1, 36)], 28) := by decide +kernel
theorem dX4_orders_84 : decode cX4_orders 84 = .ok (.aload_n 0, 1) := by decide +kernel
theorem dX4_orders_85 : decode cX4_orders 85 = .ok (.getfield 51, 3) := by decide +kernel
theorem dX4_orders_88 : decode cX4_orders 88 = .ok (.invokevirtual 172, 3) := by decide +kernel
theorem dX4_orders_91 : decode cX4_orders 91 = .ok (.ireturn, 1) := by decide +kernel
theorem dX4_orders_92 : decode cX4_orders 92 = .ok (.aload_n 0, 1) := by decide +kernel
theorem dX4_orders_93 : decode cX4_orders 93 = .ok (.getfield 51, 3) := by decide +kernel
theorem dX4_orders_96 : decode cX4_orders 96 = .ok (.iload_n 1, 1) := by decide +kernel
theorem dX4_orders_97 : decode cX4_orders 97 = .ok (.iload_n 2, 1) := by decide +kernel
theorem dX4_orders_98 : decode cX4_orders 98 = .ok (.invokevirtual 175, 3) := by decide +kernel
theorem dX4_orders_101 : decode cX4_orders 101 = .ok (.ireturn, 1) := by decide +kernel
theorem dX4_orders_102 : decode cX4_orders 102 = .ok (.aload_n 0, 1) := by decide +kernel
theorem dX4_orders_103 : decode cX4_orders 103 = .ok (.getfield 51, 3) := by decide +kernel
theorem dX4_orders_106 : decode cX4_orders 106 = .ok (.iload_n 1, 1) := by decide +kernel
theorem dX4_orders_107 : decode cX4_orders 107 = .ok (.iload_n 2, 1) := by decide +kernel
theorem dX4_orders_108 : decode cX4_orders 108 = .ok (.invokevirtual 178, 3) := by decide +kernel
theorem dX4_orders_111 : decode cX4_orders 111 = .ok (.ireturn, 1) := by decide +kernel
theorem dX4_isVisitor_0 : decode cX4_isVisitor 0 = .ok (.iload_n 0, 1) := by decide +kernel
theorem dX4_isVisitor_1 : decode cX4_isVisitor 1 = .ok (.ifCond .lt 13, 3) := by decide +kernel
theorem dX4_isVisitor_4 : decode cX4_isVisitor 4 = .ok (.iload_n 0, 1) := by decide +kernel
theorem dX4_isVisitor_5 : decode cX4_isVisitor 5 = .ok (.bipush 6, 2) := by decide +kernel
theorem dX4_isVisitor_7 : decode cX4_isVisitor 7 = .ok (.if_icmp .ge 7, 3) := by decide +kernel
theorem dX4_isVisitor_10 : decode cX4_isVisitor 10 = .ok (.iconst 1, 1) := by decide +kernel
theorem dX4_isVisitor_11 : decode cX4_isVisitor 11 = .ok (.goto 4, 3) := by decide +kernel
theorem dX4_isVisitor_14 : decode cX4_isVisitor 14 = .ok (.iconst 0, 1) := by decide +kernel
theorem dX4_isVisitor_15 : decode cX4_isVisitor 15 = .ok (.ireturn, 1) := by decide +kernel
theorem dX4_isCard_0 : decode cX4_isCard 0 = .ok (.iload_n 0, 1) := by decide +kernel
theorem dX4_isCard_1 : decode cX4_isCard 1 = .ok (.ifCond .lt 13, 3) := by decide +kernel
theorem dX4_isCard_4 : decode cX4_isCard 4 = .ok (.iload_n 0, 1) := by decide +kernel
theorem dX4_isCard_5 : decode cX4_isCard 5 = .ok (.bipush 7, 2) := by decide +kernel
theorem dX4_isCard_7 : decode cX4_isCard 7 = .ok (.if_icmp .ge 7, 3) := by decide +kernel
theorem dX4_isCard_10 : decode cX4_isCard 10 = .ok (.iconst 1, 1) := by decide +kernel
theorem dX4_isCard_11 : decode cX4_isCard 11 = .ok (.goto 4, 3) := by decide +kernel
theorem dX4_isCard_14 : decode cX4_isCard 14 = .ok (.iconst 0, 1) := by decide +kernel
theorem dX4_isCard_15 : decode cX4_isCard 15 = .ok (.ireturn, 1) := by decide +kernel
set_option maxRecDepth 20000 in
theorem ggX4_remember_X4_dropOldest : GoodIn wsX4_remember wsX4_dropOldest := goodIn_r _ [8, 2, 1, 30, 31, 32, 33, 34, 35, 36, 37, 38, 39] (by decide +kernel) (by decide +kernel)
set_option maxRecDepth 20000 in
theorem gX4_remember_X4_dropOldest : GoodIn wsX4_remember (wsV RX4 181 RX4 yX4_dropOldest wsX4_dropOldest) := goodIn_app (goodIn_of _ (by decide +kernel)) ggX4_remember_X4_dropOldest
set_option maxRecDepth 20000 in
theorem ggX4_remember_X3_copyFrom : GoodIn wsX4_remember wsX3_copyFrom := goodIn_r _ [13, 14, 15, 16, 17, 18, 19, 20, 21, 22, 23, 24, 25, 26, 27, 28, 29, 40, 41, 42, 43, 44, 45] (by decide +kernel) (by decide +kernel)
set_option maxRecDepth 20000 in
theorem gX4_remember_X3_copyFrom : GoodIn wsX4_remember (wsV RX4 114 RX3 yX3_copyFrom wsX3_copyFrom) := goodIn_app (goodIn_of _ (by decide +kernel)) ggX4_remember_X3_copyFrom
theorem dX4_remember_0 : decode cX4_remember 0 = .ok (.aload_n 0, 1) := by decide +kernel
theorem dX4_remember_1 : decode cX4_remember 1 = .ok (.getfield 30, 3) := by decide +kernel
theorem dX4_remember_4 : decode cX4_remember 4 = .ok (.iconst 4, 1) := by decide +kernel
theorem dX4_remember_5 : decode cX4_remember 5 = .ok (.if_icmp .lt 7, 3) := by decide +kernel
theorem dX4_remember_8 : decode cX4_remember 8 = .ok (.aload_n 0, 1) := by decide +kernel
theorem dX4_remember_9 : decode cX4_remember 9 = .ok (.invokevirtual 181, 3) := by decide +kernel
theorem dX4_remember_12 : decode cX4_remember 12 = .ok (.aload_n 0, 1) := by decide +kernel
theorem dX4_remember_13 : decode cX4_remember 13 = .ok (.getfield 26, 3) := by decide +kernel
theorem dX4_remember_16 : decode cX4_remember 16 = .ok (.aload_n 0, 1) := by decide +kernel
theorem dX4_remember_17 : decode cX4_remember 17 = .ok (.getfield 30, 3) := by decide +kernel
theorem dX4_remember_20 : decode cX4_remember 20 = .ok (.aaload, 1) := by decide +kernel
theorem dX4_remember_21 : decode cX4_remember 21 = .ok (.aload_n 0, 1) := by decide +kernel
theorem dX4_remember_22 : decode cX4_remember 22 = .ok (.getfield 12, 3) := by decide +kernel
theorem dX4_remember_25 : decode cX4_remember 25 = .ok (.invokevirtual 114, 3) := by decide +kernel
theorem dX4_remember_28 : decode cX4_remember 28 = .ok (.aload_n 0, 1) := by decide +kernel
theorem dX4_remember_29 : decode cX4_remember 29 = .ok (.dup, 1) := by decide +kernel
theorem dX4_remember_30 : decode cX4_remember 30 = .ok (.getfield 30, 3) := by decide +kernel
theorem dX4_remember_33 : decode cX4_remember 33 = .ok (.iconst 1, 1) := by decide +kernel
theorem dX4_remember_34 : decode cX4_remember 34 = .ok (.iadd, 1) := by decide +kernel
theorem dX4_remember_35 : decode cX4_remember 35 = .ok (.putfield 30, 3) := by decide +kernel
theorem dX4_remember_38 : decode cX4_remember 38 = .ok (.return_, 1) := by decide +kernel
theorem dX4_dropOldest_0 : decode cX4_dropOldest 0 = .ok (.aload_n 0, 1) := by decide +kernel
theorem dX4_dropOldest_1 : decode cX4_dropOldest 1 = .ok (.getfield 26, 3) := by decide +kernel
theorem dX4_dropOldest_4 : decode cX4_dropOldest 4 = .ok (.iconst 0, 1) := by decide +kernel
theorem dX4_dropOldest_5 : decode cX4_dropOldest 5 = .ok (.aaload, 1) := by decide +kernel
theorem dX4_dropOldest_6 : decode cX4_dropOldest 6 = .ok (.astore_n 1, 1) := by decide +kernel
theorem dX4_dropOldest_7 : decode cX4_dropOldest 7 = .ok (.iconst 1, 1) := by decide +kernel
theorem dX4_dropOldest_8 : decode cX4_dropOldest 8 = .ok (.istore_n 2, 1) := by decide +kernel
theorem dX4_dropOldest_9 : decode cX4_dropOldest 9 = .ok (.iload_n 2, 1) := by decide +kernel
theorem dX4_dropOldest_10 : decode cX4_dropOldest 10 = .ok (.iconst 4, 1) := by decide +kernel
theorem dX4_dropOldest_11 : decode cX4_dropOldest 11 = .ok (.if_icmp .ge 23, 3) := by decide +kernel
theorem dX4_dropOldest_14 : decode cX4_dropOldest 14 = .ok (.aload_n 0, 1) := by decide +kernel
theorem dX4_dropOldest_15 : decode cX4_dropOldest 15 = .ok (.getfield 26, 3) := by decide +kernel
theorem dX4_dropOldest_18 : decode cX4_dropOldest 18 = .ok (.iload_n 2, 1) := by decide +kernel
theorem dX4_dropOldest_19 : decode cX4_dropOldest 19 = .ok (.iconst 1, 1) := by decide +kernel
theorem dX4_dropOldest_20 : decode cX4_dropOldest 20 = .ok (.isub, 1) := by decide +kernel
theorem dX4_dropOldest_21 : decode cX4_dropOldest 21 = .ok (.aload_n 0, 1) := by decide +kernel
theorem dX4_dropOldest_22 : decode cX4_dropOldest 22 = .ok (.getfield 26, 3) := by decide +kernel
theorem dX4_dropOldest_25 : decode cX4_dropOldest 25 = .ok (.iload_n 2, 1) := by decide +kernel
theorem dX4_dropOldest_26 : decode cX4_dropOldest 26 = .ok (.aaload, 1) := by decide +kernel
theorem dX4_dropOldest_27 : decode cX4_dropOldest 27 = .ok (.aastore, 1) := by decide +kernel
theorem dX4_dropOldest_28 : decode cX4_dropOldest 28 = .ok (.iinc 2 1, 3) := by decide +kernel
theorem dX4_dropOldest_31 : decode cX4_dropOldest 31 = .ok (.goto (-22), 3) := by decide +kernel
theorem dX4_dropOldest_34 : decode cX4_dropOldest 34 = .ok (.aload_n 0, 1) := by decide +kernel
theorem dX4_dropOldest_35 : decode cX4_dropOldest 35 = .ok (.getfield 26, 3) := by decide +kernel
theorem dX4_dropOldest_38 : decode cX4_dropOldest 38 = .ok (.iconst 3, 1) := by decide +kernel
theorem dX4_dropOldest_39 : decode cX4_dropOldest 39 = .ok (.aload_n 1, 1) := by decide +kernel
theorem dX4_dropOldest_40 : decode cX4_dropOldest 40 = .ok (.aastore, 1) := by decide +kernel
theorem dX4_dropOldest_41 : decode cX4_dropOldest 41 = .ok (.aload_n 0, 1) := by decide +kernel
theorem dX4_dropOldest_42 : decode cX4_dropOldest 42 = .ok (.iconst 3, 1) := by decide +kernel
theorem dX4_dropOldest_43 : decode cX4_dropOldest 43 = .ok (.putfield 30, 3) := by decide +kernel
theorem dX4_dropOldest_46 : decode cX4_dropOldest 46 = .ok (.return_, 1) := by decide +kernel
set_option maxRecDepth 20000 in
theorem ggX5_init_X5_clearLock : GoodIn wsX5_init wsX5_clearLock := goodIn_r _ [20, 5, 21, 22, 23, 24, 25, 26, 27, 28, 29, 30, 31, 32, 33, 34, 35, 36, 37, 38] (by decide +kernel) (by decide +kernel)
set_option maxRecDepth 20000 in
theorem gX5_init_X5_clearLock : GoodIn wsX5_init (wsV RX5 43 RX5 yX5_clearLock wsX5_clearLock) := goodIn_app (goodIn_of _ (by decide +kernel)) ggX5_init_X5_clearLock
theorem dX5_init_0 : decode cX5_init 0 = .ok (.aload_n 0, 1) := by decide +kernel
theorem dX5_init_1 : decode cX5_init 1 = .ok (.invokespecial 1, 3) := by decide +kernel
theorem dX5_init_4 : decode cX5_init 4 = .ok (.aload_n 0, 1) := by decide +kernel
theorem dX5_init_5 : decode cX5_init 5 = .ok (.bipush 86, 2) := by decide +kernel
theorem dX5_init_7 : decode cX5_init 7 = .ok (.newarray .int, 2) := by decide +kernel
theorem dX5_init_9 : decode cX5_init 9 = .ok (.putfield 7, 3) := by decide +kernel
theorem dX5_init_12 : decode cX5_init 12 = .ok (.aload_n 0, 1) := by decide +kernel
theorem dX5_init_13 : decode cX5_init 13 = .ok (.bipush 86, 2) := by decide +kernel
theorem dX5_init_15 : decode cX5_init 15 = .ok (.newarray .int, 2) := by decide +kernel
theorem dX5_init_17 : decode cX5_init 17 = .ok (.putfield 13, 3) := by decide +kernel
theorem dX5_init_20 : decode cX5_init 20 = .ok (.aload_n 0, 1) := by decide +kernel
theorem dX5_init_21 : decode cX5_init 21 = .ok (.sipush 344, 3) := by decide +kernel
theorem dX5_init_24 : decode cX5_init 24 = .ok (.newarray .int, 2) := by decide +kernel
theorem dX5_init_26 : decode cX5_init 26 = .ok (.putfield 16, 3) := by decide +kernel
theorem dX5_init_29 : decode cX5_init 29 = .ok (.aload_n 0, 1) := by decide +kernel
theorem dX5_init_30 : decode cX5_init 30 = .ok (.bipush 86, 2) := by decide +kernel
theorem dX5_init_32 : decode cX5_init 32 = .ok (.newarray .int, 2) := by decide +kernel
theorem dX5_init_34 : decode cX5_init 34 = .ok (.putfield 19, 3) := by decide +kernel
theorem dX5_init_37 : decode cX5_init 37 = .ok (.aload_n 0, 1) := by decide +kernel
theorem dX5_init_38 : decode cX5_init 38 = .ok (.bipush 60, 2) := by decide +kernel
theorem dX5_init_40 : decode cX5_init 40 = .ok (.newarray .int, 2) := by decide +kernel
theorem dX5_init_42 : decode cX5_init 42 = .ok (.putfield 22, 3) := by decide +kernel
theorem dX5_init_45 : decode cX5_init 45 = .ok (.aload_n 0, 1) := by decide +kernel
theorem dX5_init_46 : decode cX5_init 46 = .ok (.bipush 62, 2) := by decide +kernel
theorem dX5_init_48 : decode cX5_init 48 = .ok (.newarray .int, 2) := by decide +kernel
theorem dX5_init_50 : decode cX5_init 50 = .ok (.putfield 25, 3) := by decide +kernel
theorem dX5_init_53 : decode cX5_init 53 = .ok (.aload_n 0, 1) := by decide +kernel
theorem dX5_init_54 : decode cX5_init 54 = .ok (.bipush 62, 2) := by decide +kernel
theorem dX5_init_56 : decode cX5_init 56 = .ok (.newarray .int, 2) := by decide +kernel
theorem dX5_init_58 : decode cX5_init 58 = .ok (.putfield 28, 3) := by decide +kernel
theorem dX5_init_61 : decode cX5_init 61 = .ok (.aload_n 0, 1) := by decide +kernel
theorem dX5_init_62 : decode cX5_init 62 = .ok (.bipush 62, 2) := by decide +kernel
theorem dX5_init_64 : decode cX5_init 64 = .ok (.newarray .int, 2) := by decide +kernel
theorem dX5_init_66 : decode cX5_init 66 = .ok (.putfield 31, 3) := by decide +kernel
theorem dX5_init_69 : decode cX5_init 69 = .ok (.aload_n 0, 1) := by decide +kernel
theorem dX5_init_70 : decode cX5_init 70 = .ok (.bipush 62, 2) := by decide +kernel
theorem dX5_init_72 : decode cX5_init 72 = .ok (.newarray .int, 2) := by decide +kernel
theorem dX5_init_74 : decode cX5_init 74 = .ok (.putfield 34, 3) := by decide +kernel
theorem dX5_init_77 : decode cX5_init 77 = .ok (.aload_n 0, 1) := by decide +kernel
theorem dX5_init_78 : decode cX5_init 78 = .ok (.bipush 62, 2) := by decide +kernel
theorem dX5_init_80 : decode cX5_init 80 = .ok (.newarray .int, 2) := by decide +kernel
theorem dX5_init_82 : decode cX5_init 82 = .ok (.putfield 37, 3) := by decide +kernel
theorem dX5_init_85 : decode cX5_init 85 = .ok (.aload_n 0, 1) := by decide +kernel
theorem dX5_init_86 : decode cX5_init 86 = .ok (.sipush 16500, 3) := by decide +kernel
theorem dX5_init_89 : decode cX5_init 89 = .ok (.newarray .int, 2) := by decide +kernel
theorem dX5_init_91 : decode cX5_init 91 = .ok (.putfield 40, 3) := by decide +kernel
theorem dX5_init_94 : decode cX5_init 94 = .ok (.aload_n 0, 1) := by decide +kernel
theorem dX5_init_95 : decode cX5_init 95 = .ok (.getfield 7, 3) := by decide +kernel
theorem dX5_init_98 : decode cX5_init 98 = .ok (.bipush 61, 2) := by decide +kernel
theorem dX5_init_100 : decode cX5_init 100 = .ok (.iconst 1, 1) := by decide +kernel
theorem dX5_init_101 : decode cX5_init 101 = .ok (.iastore, 1) := by decide +kernel
theorem dX5_init_102 : decode cX5_init 102 = .ok (.aload_n 0, 1) := by decide +kernel
theorem dX5_init_103 : decode cX5_init 103 = .ok (.iconst 0, 1) := by decide +kernel
theorem dX5_init_104 : decode cX5_init 104 = .ok (.invokevirtual 43, 3) := by decide +kernel
theorem dX5_init_107 : decode cX5_init 107 = .ok (.return_, 1) := by decide +kernel
theorem dX5_in_0 : decode cX5_in 0 = .ok (.iload_n 0, 1) := by decide +kernel
theorem dX5_in_1 : decode cX5_in 1 = .ok (.iload_n 1, 1) := by decide +kernel
theorem dX5_in_2 : decode cX5_in 2 = .ok (.if_icmp .lt 12, 3) := by decide +kernel
theorem dX5_in_5 : decode cX5_in 5 = .ok (.iload_n 0, 1) := by decide +kernel
theorem dX5_in_6 : decode cX5_in 6 = .ok (.iload_n 2, 1) := by decide +kernel
theorem dX5_in_7 : decode cX5_in 7 = .ok (.if_icmp .gt 7, 3) := by decide +kernel
theorem dX5_in_10 : decode cX5_in 10 = .ok (.iconst 1, 1) := by decide +kernel
theorem dX5_in_11 : decode cX5_in 11 = .ok (.goto 4, 3) := by decide +kernel
theorem dX5_in_14 : decode cX5_in 14 = .ok (.iconst 0, 1) := by decide +kernel
theorem dX5_in_15 : decode cX5_in 15 = .ok (.ireturn, 1) := by decide +kernel
set_option maxRecDepth 20000 in
theorem ggX5_isVisitor_X5_in : GoodIn wsX5_isVisitor wsX5_in := goodIn_r _ [4] (by decide +kernel) (by decide +kernel)
set_option maxRecDepth 20000 in
theorem gX5_isVisitor_X5_in : GoodIn wsX5_isVisitor (va_wsS RX5 47 yX5_in wsX5_in) := goodIn_app (goodIn_of _ (by decide +kernel)) ggX5_isVisitor_X5_in
theorem dX5_isVisitor_0 : decode cX5_isVisitor 0 = .ok (.iload_n 0, 1) := by decide +kernel
theorem dX5_isVisitor_1 : decode cX5_isVisitor 1 = .ok (.iconst 0, 1) := by decide +kernel
theorem dX5_isVisitor_2 : decode cX5_isVisitor 2 = .ok (.iconst 5, 1) := by decide +kernel
theorem dX5_isVisitor_3 : decode cX5_isVisitor 3 = .ok (.invokestatic 47, 3) := by decide +kernel
theorem dX5_isVisitor_6 : decode cX5_isVisitor 6 = .ok (.ireturn, 1) := by decide +kernel
theorem dX5_clearLock_0 : decode cX5_clearLock 0 = .ok (.iconst 0, 1) := by decide +kernel
theorem dX5_clearLock_1 : decode cX5_clearLock 1 = .ok (.istore_n 2, 1) := by decide +kernel
theorem dX5_clearLock_2 : decode cX5_clearLock 2 = .ok (.iload_n 2, 1) := by decide +kernel
theorem dX5_clearLock_3 : decode cX5_clearLock 3 = .ok (.bipush 53, 2) := by decide +kernel
theorem dX5_clearLock_5 : decode cX5_clearLock 5 = .ok (.if_icmp .ge 16, 3) := by decide +kernel
theorem dX5_clearLock_8 : decode cX5_clearLock 8 = .ok (.aload_n 0, 1) := by decide +kernel
theorem dX5_clearLock_9 : decode cX5_clearLock 9 = .ok (.getfield 7, 3) := by decide +kernel
theorem dX5_clearLock_12 : decode cX5_clearLock 12 = .ok (.iload_n 2, 1) := by decide +kernel
theorem dX5_clearLock_13 : decode cX5_clearLock 13 = .ok (.iconst 0, 1) := by decide +kernel
theorem dX5_clearLock_14 : decode cX5_clearLock 14 = .ok (.iastore, 1) := by decide +kernel
theorem dX5_clearLock_15 : decode cX5_clearLock 15 = .ok (.iinc 2 1, 3) := by decide +kernel
theorem dX5_clearLock_18 : decode cX5_clearLock 18 = .ok (.goto (-16), 3) := by decide +kernel
theorem dX5_clearLock_21 : decode cX5_clearLock 21 = .ok (.iconst 0, 1) := by decide +kernel
theorem dX5_clearLock_22 : decode cX5_clearLock 22 = .ok (.istore_n 2, 1) := by decide +kernel
theorem dX5_clearLock_23 : decode cX5_clearLock 23 = .ok (.iload_n 2, 1) := by decide +kernel
theorem dX5_clearLock_24 : decode cX5_clearLock 24 = .ok (.bipush 6, 2) := by decide +kernel
theorem dX5_clearLock_26 : decode cX5_clearLock 26 = .ok (.if_icmp .ge 59, 3) := by decide +kernel
theorem dX5_clearLock_29 : decode cX5_clearLock 29 = .ok (.aload_n 0, 1) := by decide +kernel
theorem dX5_clearLock_30 : decode cX5_clearLock 30 = .ok (.getfield 7, 3) := by decide +kernel
theorem dX5_clearLock_33 : decode cX5_clearLock 33 = .ok (.bipush 6, 2) := by decide +kernel
theorem dX5_clearLock_35 : decode cX5_clearLock 35 = .ok (.iload_n 2, 1) := by decide +kernel
theorem dX5_clearLock_36 : decode cX5_clearLock 36 = .ok (.iadd, 1) := by decide +kernel
theorem dX5_clearLock_37 : decode cX5_clearLock 37 = .ok (.iconst (-1), 1) := by decide +kernel
theorem dX5_clearLock_38 : decode cX5_clearLock 38 = .ok (.iastore, 1) := by decide +kernel
theorem dX5_clearLock_39 : decode cX5_clearLock 39 = .ok (.aload_n 0, 1) := by decide +kernel
theorem dX5_clearLock_40 : decode cX5_clearLock 40 = .ok (.getfield 7, 3) := by decide +kernel
theorem dX5_clearLock_43 : decode cX5_clearLock 43 = .ok (.bipush 18, 2) := by decide +kernel
theorem dX5_clearLock_45 : decode cX5_clearLock 45 = .ok (.iload_n 2, 1) := by decide +kernel
theorem dX5_clearLock_46 : decode cX5_clearLock 46 = .ok (.iadd, 1) := by decide +kernel
theorem dX5_clearLock_47 : decode cX5_clearLock 47 = .ok (.iconst (-1), 1) := by decide +kernel
theorem dX5_clearLock_48 : decode cX5_clearLock 48 = .ok (.iastore, 1) := by decide +kernel
theorem dX5_clearLock_49 : decode cX5_clearLock 49 = .ok (.aload_n 0, 1) := by decide +kernel
theorem dX5_clearLock_50 : decode cX5_clearLock 50 = .ok (.getfield 7, 3) := by decide +kernel
theorem dX5_clearLock_53 : decode cX5_clearLock 53 = .ok (.bipush 24, 2) := by decide +kernel
theorem dX5_clearLock_55 : decode cX5_clearLock 55 = .ok (.iload_n 2, 1) := by decide +kernel
theorem dX5_clearLock_56 : decode cX5_clearLock 56 = .ok (.iadd, 1) := by decide +kernel
theorem dX5_clearLock_57 : decode cX5_clearLock 57 = .ok (.iload_n 2, 1) := by decide +kernel
theorem dX5_clearLock_58 : decode cX5_clearLock 58 = .ok (.iastore, 1) := by decide +kernel
theorem dX5_clearLock_59 : decode cX5_clearLock 59 = .ok (.aload_n 0, 1) := by decide +kernel
theorem dX5_clearLock_60 : decode cX5_clearLock 60 = .ok (.getfield 7, 3) := by decide +kernel
theorem dX5_clearLock_63 : decode cX5_clearLock 63 = .ok (.bipush 30, 2) := by decide +kernel
theorem dX5_clearLock_65 : decode cX5_clearLock 65 = .ok (.iload_n 2, 1) := by decide +kernel
theorem dX5_clearLock_66 : decode cX5_clearLock 66 = .ok (.iadd, 1) := by decide +kernel
theorem dX5_clearLock_67 : decode cX5_clearLock 67 = .ok (.iconst (-1), 1) := by decide +kernel
theorem dX5_clearLock_68 : decode cX5_clearLock 68 = .ok (.iastore, 1) := by decide +kernel
theorem dX5_clearLock_69 : decode cX5_clearLock 69 = .ok (.aload_n 0, 1) := by decide +kernel
theorem dX5_clearLock_70 : decode cX5_clearLock 70 = .ok (.getfield 7, 3) := by decide +kernel
theorem dX5_clearLock_73 : decode cX5_clearLock 73 = .ok (.bipush 36, 2) := by decide +kernel
theorem dX5_clearLock_75 : decode cX5_clearLock 75 = .ok (.iload_n 2, 1) := by decide +kernel
theorem dX5_clearLock_76 : decode cX5_clearLock 76 = .ok (.iadd, 1) := by decide +kernel
theorem dX5_clearLock_77 : decode cX5_clearLock 77 = .ok (.iconst (-1), 1) := by decide +kernel
theorem dX5_clearLock_78 : decode cX5_clearLock 78 = .ok (.iastore, 1) := by decide +kernel
theorem dX5_clearLock_79 : decode cX5_clearLock 79 = .ok (.iinc 2 1, 3) := by decide +kernel
theorem dX5_clearLock_82 : decode cX5_clearLock 82 = .ok (.goto (-59), 3) := by decide +kernel
theorem dX5_clearLock_85 : decode cX5_clearLock 85 = .ok (.aload_n 0, 1) := by decide +kernel
theorem dX5_clearLock_86 : decode cX5_clearLock 86 = .ok (.getfield 7, 3) := by decide +kernel
theorem dX5_clearLock_89 : decode cX5_clearLock 89 = .ok (.bipush 49, 2) := by decide +kernel
theorem dX5_clearLock_91 : decode cX5_clearLock 91 = .ok (.iload_n 1, 1) := by decide +kernel
theorem dX5_clearLock_92 : decode cX5_clearLock 92 = .ok (.ifCond .ne 7, 3) := by decide +kernel
theorem dX5_clearLock_95 : decode cX5_clearLock 95 = .ok (.iconst (-1), 1) := by decide +kernel
theorem dX5_clearLock_96 : decode cX5_clearLock 96 = .ok (.goto 5, 3) := by decide +kernel
theorem dX5_clearLock_99 : decode cX5_clearLock 99 = .ok (.bipush 6, 2) := by decide +kernel
theorem dX5_clearLock_101 : decode cX5_clearLock 101 = .ok (.iastore, 1) := by decide +kernel
theorem dX5_clearLock_102 : decode cX5_clearLock 102 = .ok (.aload_n 0, 1) := by decide +kernel
theorem dX5_clearLock_103 : decode cX5_clearLock 103 = .ok (.getfield 7, 3) := by decide +kernel
theorem dX5_clearLock_106 : decode cX5_clearLock 106 = .ok (.bipush 60, 2) := by decide +kernel
theorem dX5_clearLock_108 : decode cX5_clearLock 108 = .ok (.iload_n 1, 1) := by decide +kernel
theorem dX5_clearLock_109 : decode cX5_clearLock 109 = .ok (.iastore, 1) := by decide +kernel
theorem dX5_clearLock_110 : decode cX5_clearLock 110 = .ok (.return_, 1) := by decide +kernel
theorem dX5_copyRow_0 : decode cX5_copyRow 0 = .ok (.iconst 0, 1) := by decide +kernel
theorem dX5_copyRow_1 : decode cX5_copyRow 1 = .ok (.istore 5, 2) := by decide +kernel
theorem dX5_copyRow_3 : decode cX5_copyRow 3 = .ok (.iload 5, 2) := by decide +kernel
theorem dX5_copyRow_5 : decode cX5_copyRow 5 = .ok (.iload 4, 2) := by decide +kernel
theorem dX5_copyRow_7 : decode cX5_copyRow 7 = .ok (.if_icmp .ge 21, 3) := by decide +kernel
theorem dX5_copyRow_10 : decode cX5_copyRow 10 = .ok (.aload_n 2, 1) := by decide +kernel
theorem dX5_copyRow_11 : decode cX5_copyRow 11 = .ok (.iload_n 3, 1) := by decide +kernel
theorem dX5_copyRow_12 : decode cX5_copyRow 12 = .ok (.iload 5, 2) := by decide +kernel
theorem dX5_copyRow_14 : decode cX5_copyRow 14 = .ok (.iadd, 1) := by decide +kernel
theorem dX5_copyRow_15 : decode cX5_copyRow 15 = .ok (.aload_n 0, 1) := by decide +kernel
theorem dX5_copyRow_16 : decode cX5_copyRow 16 = .ok (.iload_n 1, 1) := by decide +kernel
theorem dX5_copyRow_17 : decode cX5_copyRow 17 = .ok (.iload 5, 2) := by decide +kernel
theorem dX5_copyRow_19 : decode cX5_copyRow 19 = .ok (.iadd, 1) := by decide +kernel
theorem dX5_copyRow_20 : decode cX5_copyRow 20 = .ok (.iaload, 1) := by decide +kernel
theorem dX5_copyRow_21 : decode cX5_copyRow 21 = .ok (.iastore, 1) := by decide +kernel
theorem dX5_copyRow_22 : decode cX5_copyRow 22 = .ok (.iinc 5 1, 3) := by decide +kernel
theorem dX5_copyRow_25 : decode cX5_copyRow 25 = .ok (.goto (-22), 3) := by decide +kernel
theorem dX5_copyRow_28 : decode cX5_copyRow 28 = .ok (.return_, 1) := by decide +kernel
set_option maxRecDepth 20000 in
theorem ggX5_record_X5_copyRow : GoodIn wsX5_record wsX5_copyRow := goodIn_r _ [7] (by decide +kernel) (by decide +kernel)
set_option maxRecDepth 20000 in
theorem gX5_record_X5_copyRow : GoodIn wsX5_record (va_wsS RX5 55 yX5_copyRow wsX5_copyRow) := goodIn_app (goodIn_of _ (by decide +kernel)) ggX5_record_X5_copyRow
theorem dX5_record_0 : decode cX5_record 0 = .ok (.aload_n 0, 1) := by decide +kernel
theorem dX5_record_1 : decode cX5_record 1 = .ok (.getfield 51, 3) := by decide +kernel
theorem dX5_record_4 : decode cX5_record 4 = .ok (.iconst 4, 1) := by decide +kernel
theorem dX5_record_5 : decode cX5_record 5 = .ok (.if_icmp .ne 43, 3) := by decide +kernel
theorem dX5_record_8 : decode cX5_record 8 = .ok (.iconst 0, 1) := by decide +kernel
theorem dX5_record_9 : decode cX5_record 9 = .ok (.istore_n 1, 1) := by decide +kernel
theorem dX5_record_10 : decode cX5_record 10 = .ok (.iload_n 1, 1) := by decide +kernel
theorem dX5_record_11 : decode cX5_record 11 = .ok (.sipush 258, 3) := by decide +kernel
theorem dX5_record_14 : decode cX5_record 14 = .ok (.if_icmp .ge 24, 3) := by decide +kernel
theorem dX5_record_17 : decode cX5_record 17 = .ok (.aload_n 0, 1) := by decide +kernel
theorem dX5_record_18 : decode cX5_record 18 = .ok (.getfield 16, 3) := by decide +kernel
theorem dX5_record_21 : decode cX5_record 21 = .ok (.iload_n 1, 1) := by decide +kernel
theorem dX5_record_22 : decode cX5_record 22 = .ok (.aload_n 0, 1) := by decide +kernel
theorem dX5_record_23 : decode cX5_record 23 = .ok (.getfield 16, 3) := by decide +kernel
theorem dX5_record_26 : decode cX5_record 26 = .ok (.iload_n 1, 1) := by decide +kernel
theorem dX5_record_27 : decode cX5_record 27 = .ok (.bipush 86, 2) := by decide +kernel
theorem dX5_record_29 : decode cX5_record 29 = .ok (.iadd, 1) := by decide +kernel
theorem dX5_record_30 : decode cX5_record 30 = .ok (.iaload, 1) := by decide +kernel
theorem dX5_record_31 : decode cX5_record 31 = .ok (.iastore, 1) := by decide +kernel
theorem dX5_record_32 : decode cX5_record 32 = .ok (.iinc 1 1, 3) := by decide +kernel
theorem dX5_record_35 : decode cX5_record 35 = .ok (.goto (-25), 3) := by decide +kernel
theorem dX5_record_38 : decode cX5_record 38 = .ok (.aload_n 0, 1) := by decide +kernel
theorem dX5_record_39 : decode cX5_record 39 = .ok (.dup, 1) := by decide +kernel
theorem dX5_record_40 : decode cX5_record 40 = .ok (.getfield 51, 3) := by decide +kernel
theorem dX5_record_43 : decode cX5_record 43 = .ok (.iconst 1, 1) := by decide +kernel
theorem dX5_record_44 : decode cX5_record 44 = .ok (.isub, 1) := by decide +kernel
theorem dX5_record_45 : decode cX5_record 45 = .ok (.putfield 51, 3) := by decide +kernel
theorem dX5_record_48 : decode cX5_record 48 = .ok (.aload_n 0, 1) := by decide +kernel
theorem dX5_record_49 : decode cX5_record 49 = .ok (.getfield 7, 3) := by decide +kernel
theorem dX5_record_52 : decode cX5_record 52 = .ok (.iconst 0, 1) := by decide +kernel
theorem dX5_record_53 : decode cX5_record 53 = .ok (.aload_n 0, 1) := by decide +kernel
theorem dX5_record_54 : decode cX5_record 54 = .ok (.getfield 16, 3) := by decide +kernel
theorem dX5_record_57 : decode cX5_record 57 = .ok (.bipush 86, 2) := by decide +kernel
theorem dX5_record_59 : decode cX5_record 59 = .ok (.aload_n 0, 1) := by decide +kernel
theorem dX5_record_60 : decode cX5_record 60 = .ok (.getfield 51, 3) := by decide +kernel
theorem dX5_record_63 : decode cX5_record 63 = .ok (.imul, 1) := by decide +kernel
theorem dX5_record_64 : decode cX5_record 64 = .ok (.bipush 86, 2) := by decide +kernel
theorem dX5_record_66 : decode cX5_record 66 = .ok (.invokestatic 55, 3) := by decide +kernel
theorem dX5_record_69 : decode cX5_record 69 = .ok (.aload_n 0, 1) := by decide +kernel
theorem dX5_record_70 : decode cX5_record 70 = .ok (.dup, 1) := by decide +kernel
theorem dX5_record_71 : decode cX5_record 71 = .ok (.getfield 51, 3) := by decide +kernel
theorem dX5_record_74 : decode cX5_record 74 = .ok (.iconst 1, 1) := by decide +kernel
theorem dX5_record_75 : decode cX5_record 75 = .ok (.iadd, 1) := by decide +kernel
theorem dX5_record_76 : decode cX5_record 76 = .ok (.putfield 51, 3) := by decide +kernel
theorem dX5_record_79 : decode cX5_record 79 = .ok (.return_, 1) := by decide +kernel
theorem dX5_notAway_0 : decode cX5_notAway 0 = .ok (.iconst 0, 1) := by decide +kernel
theorem dX5_notAway_1 : decode cX5_notAway 1 = .ok (.istore_n 1, 1) := by decide +kernel
theorem dX5_notAway_2 : decode cX5_notAway 2 = .ok (.iconst 0, 1) := by decide +kernel
theorem dX5_notAway_3 : decode cX5_notAway 3 = .ok (.istore_n 2, 1) := by decide +kernel
theorem dX5_notAway_4 : decode cX5_notAway 4 = .ok (.iload_n 2, 1) := by decide +kernel
theorem dX5_notAway_5 : decode cX5_notAway 5 = .ok (.bipush 6, 2) := by decide +kernel
theorem dX5_notAway_7 : decode cX5_notAway 7 = .ok (.if_icmp .ge 28, 3) := by decide +kernel
theorem dX5_notAway_10 : decode cX5_notAway 10 = .ok (.iload_n 1, 1) := by decide +kernel
theorem dX5_notAway_11 : decode cX5_notAway 11 = .ok (.aload_n 0, 1) := by decide +kernel
theorem dX5_notAway_12 : decode cX5_notAway 12 = .ok (.getfield 7, 3) := by decide +kernel
theorem dX5_notAway_15 : decode cX5_notAway 15 = .ok (.iconst 0, 1) := by decide +kernel
theorem dX5_notAway_16 : decode cX5_notAway 16 = .ok (.iload_n 2, 1) := by decide +kernel
theorem dX5_notAway_17 : decode cX5_notAway 17 = .ok (.iadd, 1) := by decide +kernel
theorem dX5_notAway_18 : decode cX5_notAway 18 = .ok (.iaload, 1) := by decide +kernel
theorem dX5_notAway_19 : decode cX5_notAway 19 = .ok (.ifCond .ne 7, 3) := by decide +kernel
theorem dX5_notAway_22 : decode cX5_notAway 22 = .ok (.iconst 0, 1) := by decide +kernel
theorem dX5_notAway_23 : decode cX5_notAway 23 = .ok (.goto 4, 3) := by decide +kernel
theorem dX5_notAway_26 : decode cX5_notAway 26 = .ok (.iconst 1, 1) := by decide +kernel
theorem dX5_notAway_27 : decode cX5_notAway 27 = .ok (.iadd, 1) := by decide +kernel
theorem dX5_notAway_28 : decode cX5_notAway 28 = .ok (.istore_n 1, 1) := by decide +kernel
theorem dX5_notAway_29 : decode cX5_notAway 29 = .ok (.iinc 2 1, 3) := by decide +kernel
theorem dX5_notAway_32 : decode cX5_notAway 32 = .ok (.goto (-28), 3) := by decide +kernel
theorem dX5_notAway_35 : decode cX5_notAway 35 = .ok (.iload_n 1, 1) := by decide +kernel
theorem dX5_notAway_36 : decode cX5_notAway 36 = .ok (.ireturn, 1) := by decide +kernel
set_option maxRecDepth 20000 in
theorem ggX5_undo_X5_copyRow : GoodIn wsX5_undo wsX5_copyRow := goodIn_r _ [7] (by decide +kernel) (by decide +kernel)
set_option maxRecDepth 20000 in
theorem gX5_undo_X5_copyRow : GoodIn wsX5_undo (va_wsS RX5 55 yX5_copyRow wsX5_copyRow) := goodIn_app (goodIn_of _ (by decide +kernel)) ggX5_undo_X5_copyRow
theorem dX5_undo_0 : decode cX5_undo 0 = .ok (.aload_n 0, 1) := by decide +kernel
theorem dX5_undo_1 : decode cX5_undo 1 = .ok (.getfield 51, 3) := by decide +kernel
theorem dX5_undo_4 : decode cX5_undo 4 = .ok (.ifCond .ne 6, 3) := by decide +kernel
theorem dX5_undo_7 : decode cX5_undo 7 = .ok (.bipush (-5), 2) := by decide +kernel
theorem dX5_undo_9 : decode cX5_undo 9 = .ok (.ireturn, 1) := by decide +kernel
theorem dX5_undo_10 : decode cX5_undo 10 = .ok (.aload_n 0, 1) := by decide +kernel
theorem dX5_undo_11 : decode cX5_undo 11 = .ok (.dup, 1) := by decide +kernel
theorem dX5_undo_12 : decode cX5_undo 12 = .ok (.getfield 51, 3) := by decide +kernel
theorem dX5_undo_15 : decode cX5_undo 15 = .ok (.iconst 1, 1) := by decide +kernel
theorem dX5_undo_16 : decode cX5_undo 16 = .ok (.isub, 1) := by decide +kernel
theorem dX5_undo_17 : decode cX5_undo 17 = .ok (.putfield 51, 3) := by decide +kernel
theorem dX5_undo_20 : decode cX5_undo 20 = .ok (.aload_n 0, 1) := by decide +kernel
theorem dX5_undo_21 : decode cX5_undo 21 = .ok (.getfield 16, 3) := by decide +kernel
theorem dX5_undo_24 : decode cX5_undo 24 = .ok (.bipush 86, 2) := by decide +kernel
theorem dX5_undo_26 : decode cX5_undo 26 = .ok (.aload_n 0, 1) := by decide +kernel
theorem dX5_undo_27 : decode cX5_undo 27 = .ok (.getfield 51, 3) := by decide +kernel
theorem dX5_undo_30 : decode cX5_undo 30 = .ok (.imul, 1) := by decide +kernel
theorem dX5_undo_31 : decode cX5_undo 31 = .ok (.aload_n 0, 1) := by decide +kernel
theorem dX5_undo_32 : decode cX5_undo 32 = .ok (.getfield 7, 3) := by decide +kernel
theorem dX5_undo_35 : decode cX5_undo 35 = .ok (.iconst 0, 1) := by decide +kernel
theorem dX5_undo_36 : decode cX5_undo 36 = .ok (.bipush 86, 2) := by decide +kernel
theorem dX5_undo_38 : decode cX5_undo 38 = .ok (.invokestatic 55, 3) := by decide +kernel
theorem dX5_undo_41 : decode cX5_undo 41 = .ok (.aload_n 0, 1) := by decide +kernel
theorem dX5_undo_42 : decode cX5_undo 42 = .ok (.getfield 51, 3) := by decide +kernel
theorem dX5_undo_45 : decode cX5_undo 45 = .ok (.ireturn, 1) := by decide +kernel
set_option maxRecDepth 20000 in
theorem ggX5_keep_X5_copyRow : GoodIn wsX5_keep wsX5_copyRow := goodIn_r _ [7] (by decide +kernel) (by decide +kernel)
set_option maxRecDepth 20000 in
theorem gX5_keep_X5_copyRow : GoodIn wsX5_keep (va_wsS RX5 55 yX5_copyRow wsX5_copyRow) := goodIn_app (goodIn_of _ (by decide +kernel)) ggX5_keep_X5_copyRow
set_option maxRecDepth 20000 in
theorem ggX5_keep_X5_notAway : GoodIn wsX5_keep wsX5_notAway := goodIn_r _ [11, 1, 12, 13, 14, 15, 16, 17, 18, 19, 20, 21, 22, 23, 24, 25, 26, 27, 28, 29] (by decide +kernel) (by decide +kernel)
set_option maxRecDepth 20000 in
theorem gX5_keep_X5_notAway : GoodIn wsX5_keep (wsV RX5 63 RX5 yX5_notAway wsX5_notAway) := goodIn_app (goodIn_of _ (by decide +kernel)) ggX5_keep_X5_notAway
theorem dX5_keep_0 : decode cX5_keep 0 = .ok (.aload_n 0, 1) := by decide +kernel
theorem dX5_keep_1 : decode cX5_keep 1 = .ok (.getfield 7, 3) := by decide +kernel
theorem dX5_keep_4 : decode cX5_keep 4 = .ok (.iconst 0, 1) := by decide +kernel
theorem dX5_keep_5 : decode cX5_keep 5 = .ok (.aload_n 0, 1) := by decide +kernel
theorem dX5_keep_6 : decode cX5_keep 6 = .ok (.getfield 19, 3) := by decide +kernel
theorem dX5_keep_9 : decode cX5_keep 9 = .ok (.iconst 0, 1) := by decide +kernel
theorem dX5_keep_10 : decode cX5_keep 10 = .ok (.bipush 86, 2) := by decide +kernel
theorem dX5_keep_12 : decode cX5_keep 12 = .ok (.invokestatic 55, 3) := by decide +kernel
theorem dX5_keep_15 : decode cX5_keep 15 = .ok (.aload_n 0, 1) := by decide +kernel
theorem dX5_keep_16 : decode cX5_keep 16 = .ok (.iconst 1, 1) := by decide +kernel
theorem dX5_keep_17 : decode cX5_keep 17 = .ok (.putfield 59, 3) := by decide +kernel
theorem dX5_keep_20 : decode cX5_keep 20 = .ok (.aload_n 0, 1) := by decide +kernel
theorem dX5_keep_21 : decode cX5_keep 21 = .ok (.invokevirtual 63, 3) := by decide +kernel
theorem dX5_keep_24 : decode cX5_keep 24 = .ok (.ireturn, 1) := by decide +kernel
set_option maxRecDepth 20000 in
theorem ggX5_restore_X5_record : GoodIn wsX5_restore wsX5_record := goodIn_r _ [8, 9, 10, 3, 11, 12, 7, 13, 18, 19, 20, 21, 22, 23, 24, 25, 26, 27, 28, 29, 30, 31, 32, 33, 34, 35] (by decide +kernel) (by decide +kernel)
set_option maxRecDepth 20000 in
theorem gX5_restore_X5_record : GoodIn wsX5_restore (wsV RX5 67 RX5 yX5_record wsX5_record) := goodIn_app (goodIn_of _ (by decide +kernel)) ggX5_restore_X5_record
set_option maxRecDepth 20000 in
theorem ggX5_restore_X5_copyRow : GoodIn wsX5_restore wsX5_copyRow := goodIn_r _ [13] (by decide +kernel) (by decide +kernel)
set_option maxRecDepth 20000 in
theorem gX5_restore_X5_copyRow : GoodIn wsX5_restore (va_wsS RX5 55 yX5_copyRow wsX5_copyRow) := goodIn_app (goodIn_of _ (by decide +kernel)) ggX5_restore_X5_copyRow
set_option maxRecDepth 20000 in
theorem ggX5_restore_X5_notAway : GoodIn wsX5_restore wsX5_notAway := goodIn_r _ [17, 3, 18, 19, 20, 21, 22, 23, 24, 25, 26, 27, 28, 29, 30, 31, 32, 33, 34, 35] (by decide +kernel) (by decide +kernel)
set_option maxRecDepth 20000 in
theorem gX5_restore_X5_notAway : GoodIn wsX5_restore (wsV RX5 63 RX5 yX5_notAway wsX5_notAway) := goodIn_app (goodIn_of _ (by decide +kernel)) ggX5_restore_X5_notAway
theorem dX5_restore_0 : decode cX5_restore 0 = .ok (.aload_n 0, 1) := by decide +kernel
theorem dX5_restore_1 : decode cX5_restore 1 = .ok (.getfield 59, 3) := by decide +kernel
theorem dX5_restore_4 : decode cX5_restore 4 = .ok (.ifCond .ne 6, 3) := by decide +kernel
theorem dX5_restore_7 : decode cX5_restore 7 = .ok (.bipush (-5), 2) := by decide +kernel
theorem dX5_restore_9 : decode cX5_restore 9 = .ok (.ireturn, 1) := by decide +kernel
theorem dX5_restore_10 : decode cX5_restore 10 = .ok (.aload_n 0, 1) := by decide +kernel
theorem dX5_restore_11 : decode cX5_restore 11 = .ok (.invokevirtual 67, 3) := by decide +kernel
theorem dX5_restore_14 : decode cX5_restore 14 = .ok (.aload_n 0, 1) := by decide +kernel
theorem dX5_restore_15 : decode cX5_restore 15 = .ok (.getfield 19, 3) := by decide +kernel
theorem dX5_restore_18 : decode cX5_restore 18 = .ok (.iconst 0, 1) := by decide +kernel
theorem dX5_restore_19 : decode cX5_restore 19 = .ok (.aload_n 0, 1) := by decide +kernel
theorem dX5_restore_20 : decode cX5_restore 20 = .ok (.getfield 7, 3) := by decide +kernel
theorem dX5_restore_23 : decode cX5_restore 23 = .ok (.iconst 0, 1) := by decide +kernel
theorem dX5_restore_24 : decode cX5_restore 24 = .ok (.bipush 86, 2) := by decide +kernel
theorem dX5_restore_26 : decode cX5_restore 26 = .ok (.invokestatic 55, 3) := by decide +kernel
theorem dX5_restore_29 : decode cX5_restore 29 = .ok (.aload_n 0, 1) := by decide +kernel
theorem dX5_restore_30 : decode cX5_restore 30 = .ok (.invokevirtual 63, 3) := by decide +kernel
theorem dX5_restore_33 : decode cX5_restore 33 = .ok (.ireturn, 1) := by decide +kernel
theorem dX5_isLook_0 : decode cX5_isLook 0 = .ok (.aload_n 0, 1) := by decide +kernel
theorem dX5_isLook_1 : decode cX5_isLook 1 = .ok (.getfield 7, 3) := by decide +kernel
theorem dX5_isLook_4 : decode cX5_isLook 4 = .ok (.iconst 0, 1) := by decide +kernel
theorem dX5_isLook_5 : decode cX5_isLook 5 = .ok (.iload_n 1, 1) := by decide +kernel
theorem dX5_isLook_6 : decode cX5_isLook 6 = .ok (.iadd, 1) := by decide +kernel
theorem dX5_isLook_7 : decode cX5_isLook 7 = .ok (.iaload, 1) := by decide +kernel
theorem dX5_isLook_8 : decode cX5_isLook 8 = .ok (.istore_n 2, 1) := by decide +kernel
theorem dX5_isLook_9 : decode cX5_isLook 9 = .ok (.aload_n 0, 1) := by decide +kernel
theorem dX5_isLook_10 : decode cX5_isLook 10 = .ok (.getfield 7, 3) := by decide +kernel
theorem dX5_isLook_13 : decode cX5_isLook 13 = .ok (.bipush 60, 2) := by decide +kernel
theorem dX5_isLook_15 : decode cX5_isLook 15 = .ok (.iaload, 1) := by decide +kernel
theorem dX5_isLook_16 : decode cX5_isLook 16 = .ok (.ifCond .ne 46, 3) := by decide +kernel
theorem dX5_isLook_19 : decode cX5_isLook 19 = .ok (.iload_n 2, 1) := by decide +kernel
theorem dX5_isLook_20 : decode cX5_isLook 20 = .ok (.iconst 3, 1) := by decide +kernel
theorem dX5_isLook_21 : decode cX5_isLook 21 = .ok (.if_icmp .ne 16, 3) := by decide +kernel
theorem dX5_isLook_24 : decode cX5_isLook 24 = .ok (.aload_n 0, 1) := by decide +kernel
theorem dX5_isLook_25 : decode cX5_isLook 25 = .ok (.getfield 7, 3) := by decide +kernel
theorem dX5_isLook_28 : decode cX5_isLook 28 = .ok (.bipush 12, 2) := by decide +kernel
theorem dX5_isLook_30 : decode cX5_isLook 30 = .ok (.iload_n 1, 1) := by decide +kernel
theorem dX5_isLook_31 : decode cX5_isLook 31 = .ok (.iadd, 1) := by decide +kernel
theorem dX5_isLook_32 : decode cX5_isLook 32 = .ok (.iaload, 1) := by decide +kernel
theorem dX5_isLook_33 : decode cX5_isLook 33 = .ok (.iconst 1, 1) := by decide +kernel
theorem dX5_isLook_34 : decode cX5_isLook 34 = .ok (.if_icmp .eq 22, 3) := by decide +kernel
theorem dX5_isLook_37 : decode cX5_isLook 37 = .ok (.iload_n 2, 1) := by decide +kernel
theorem dX5_isLook_38 : decode cX5_isLook 38 = .ok (.bipush 6, 2) := by decide +kernel
theorem dX5_isLook_40 : decode cX5_isLook 40 = .ok (.if_icmp .ne 20, 3) := by decide +kernel
theorem dX5_isLook_43 : decode cX5_isLook 43 = .ok (.aload_n 0, 1) := by decide +kernel
theorem dX5_isLook_44 : decode cX5_isLook 44 = .ok (.getfield 7, 3) := by decide +kernel
theorem dX5_isLook_47 : decode cX5_isLook 47 = .ok (.bipush 6, 2) := by decide +kernel
theorem dX5_isLook_49 : decode cX5_isLook 49 = .ok (.iload_n 1, 1) := by decide +kernel
theorem dX5_isLook_50 : decode cX5_isLook 50 = .ok (.iadd, 1) := by decide +kernel
theorem dX5_isLook_51 : decode cX5_isLook 51 = .ok (.iaload, 1) := by decide +kernel
theorem dX5_isLook_52 : decode cX5_isLook 52 = .ok (.iconst (-1), 1) := by decide +kernel
theorem dX5_isLook_53 : decode cX5_isLook 53 = .ok (.if_icmp .ne 7, 3) := by decide +kernel
theorem dX5_isLook_56 : decode cX5_isLook 56 = .ok (.iconst 1, 1) := by decide +kernel
theorem dX5_isLook_57 : decode cX5_isLook 57 = .ok (.goto 4, 3) := by decide +kernel
theorem dX5_isLook_60 : decode cX5_isLook 60 = .ok (.iconst 0, 1) := by decide +kernel
theorem dX5_isLook_61 : decode cX5_isLook 61 = .ok (.ireturn, 1) := by decide +kernel
theorem dX5_isLook_62 : decode cX5_isLook 62 = .ok (.iload_n 2, 1) := by decide +kernel
theorem dX5_isLook_63 : decode cX5_isLook 63 = .ok (.iconst 3, 1) := by decide +kernel
theorem dX5_isLook_64 : decode cX5_isLook 64 = .ok (.if_icmp .eq 5, 3) := by decide +kernel
theorem dX5_isLook_67 : decode cX5_isLook 67 = .ok (.iconst 0, 1) := by decide +kernel
theorem dX5_isLook_68 : decode cX5_isLook 68 = .ok (.ireturn, 1) := by decide +kernel
theorem dX5_isLook_69 : decode cX5_isLook 69 = .ok (.aload_n 0, 1) := by decide +kernel
theorem dX5_isLook_70 : decode cX5_isLook 70 = .ok (.getfield 7, 3) := by decide +kernel
theorem dX5_isLook_73 : decode cX5_isLook 73 = .ok (.bipush 60, 2) := by decide +kernel
theorem dX5_isLook_75 : decode cX5_isLook 75 = .ok (.iaload, 1) := by decide +kernel
theorem dX5_isLook_76 : decode cX5_isLook 76 = .ok (.iconst 1, 1) := by decide +kernel
theorem dX5_isLook_77 : decode cX5_isLook 77 = .ok (.if_icmp .ne 32, 3) := by decide +kernel
theorem dX5_isLook_80 : decode cX5_isLook 80 = .ok (.aload_n 0, 1) := by decide +kernel
theorem dX5_isLook_81 : decode cX5_isLook 81 = .ok (.getfield 7, 3) := by decide +kernel
theorem dX5_isLook_84 : decode cX5_isLook 84 = .ok (.bipush 42, 2) := by decide +kernel
theorem dX5_isLook_86 : decode cX5_isLook 86 = .ok (.aload_n 0, 1) := by decide +kernel
theorem dX5_isLook_87 : decode cX5_isLook 87 = .ok (.getfield 7, 3) := by decide +kernel
theorem dX5_isLook_90 : decode cX5_isLook 90 = .ok (.bipush 30, 2) := by decide +kernel
theorem dX5_isLook_92 : decode cX5_isLook 92 = .ok (.iload_n 1, 1) := by decide +kernel
theorem dX5_isLook_93 : decode cX5_isLook 93 = .ok (.iadd, 1) := by decide +kernel
theorem dX5_isLook_94 : decode cX5_isLook 94 = .ok (.iaload, 1) := by decide +kernel
theorem dX5_isLook_95 : decode cX5_isLook 95 = .ok (.iadd, 1) := by decide +kernel
theorem dX5_isLook_96 : decode cX5_isLook 96 = .ok (.iaload, 1) := by decide +kernel
theorem dX5_isLook_97 : decode cX5_isLook 97 = .ok (.iconst 1, 1) := by decide +kernel
theorem dX5_isLook_98 : decode cX5_isLook 98 = .ok (.if_icmp .ne 7, 3) := by decide +kernel
theorem dX5_isLook_101 : decode cX5_isLook 101 = .ok (.iconst 1, 1) := by decide +kernel
theorem dX5_isLook_102 : decode cX5_isLook 102 = .ok (.goto 61, 3) := by decide +kernel
theorem dX5_isLook_105 : decode cX5_isLook 105 = .ok (.iconst 0, 1) := by decide +kernel
theorem dX5_isLook_106 : decode cX5_isLook 106 = .ok (.goto 57, 3) := by decide +kernel
theorem dX5_isLook_109 : decode cX5_isLook 109 = .ok (.aload_n 0, 1) := by decide +kernel
theorem dX5_isLook_110 : decode cX5_isLook 110 = .ok (.getfield 7, 3) := by decide +kernel
theorem dX5_isLook_113 : decode cX5_isLook 113 = .ok (.bipush 60, 2) := by decide +kernel
theorem dX5_isLook_115 : decode cX5_isLook 115 = .ok (.iaload, 1) := by decide +kernel
theorem dX5_isLook_116 : decode cX5_isLook 116 = .ok (.iconst 2, 1) := by decide +kernel
theorem dX5_isLook_117 : decode cX5_isLook 117 = .ok (.if_icmp .ne 30, 3) := by decide +kernel
theorem dX5_isLook_120 : decode cX5_isLook 120 = .ok (.aload_n 0, 1) := by decide +kernel
theorem dX5_isLook_121 : decode cX5_isLook 121 = .ok (.getfield 7, 3) := by decide +kernel
theorem dX5_isLook_124 : decode cX5_isLook 124 = .ok (.bipush 36, 2) := by decide +kernel
theorem dX5_isLook_126 : decode cX5_isLook 126 = .ok (.iload_n 1, 1) := by decide +kernel
theorem dX5_isLook_127 : decode cX5_isLook 127 = .ok (.iadd, 1) := by decide +kernel
theorem dX5_isLook_128 : decode cX5_isLook 128 = .ok (.iaload, 1) := by decide +kernel
theorem dX5_isLook_129 : decode cX5_isLook 129 = .ok (.aload_n 0, 1) := by decide +kernel
theorem dX5_isLook_130 : decode cX5_isLook 130 = .ok (.getfield 7, 3) := by decide +kernel
theorem dX5_isLook_133 : decode cX5_isLook 133 = .ok (.bipush 51, 2) := by decide +kernel
theorem dX5_isLook_135 : decode cX5_isLook 135 = .ok (.iaload, 1) := by decide +kernel
theorem dX5_isLook_136 : decode cX5_isLook 136 = .ok (.if_icmp .eq 7, 3) := by decide +kernel
theorem dX5_isLook_139 : decode cX5_isLook 139 = .ok (.iconst 1, 1) := by decide +kernel
theorem dX5_isLook_140 : decode cX5_isLook 140 = .ok (.goto 23, 3) := by decide +kernel
theorem dX5_isLook_143 : decode cX5_isLook 143 = .ok (.iconst 0, 1) := by decide +kernel
theorem dX5_isLook_144 : decode cX5_isLook 144 = .ok (.goto 19, 3) := by decide +kernel
theorem dX5_isLook_147 : decode cX5_isLook 147 = .ok (.aload_n 0, 1) := by decide +kernel
theorem dX5_isLook_148 : decode cX5_isLook 148 = .ok (.getfield 7, 3) := by decide +kernel
theorem dX5_isLook_151 : decode cX5_isLook 151 = .ok (.bipush 52, 2) := by decide +kernel
theorem dX5_isLook_153 : decode cX5_isLook 153 = .ok (.iaload, 1) := by decide +kernel
theorem dX5_isLook_154 : decode cX5_isLook 154 = .ok (.iconst 1, 1) := by decide +kernel
theorem dX5_isLook_155 : decode cX5_isLook 155 = .ok (.if_icmp .ne 7, 3) := by decide +kernel
theorem dX5_isLook_158 : decode cX5_isLook 158 = .ok (.iconst 1, 1) := by decide +kernel
theorem dX5_isLook_159 : decode cX5_isLook 159 = .ok (.goto 4, 3) := by decide +kernel
theorem dX5_isLook_162 : decode cX5_isLook 162 = .ok (.iconst 0, 1) := by decide +kernel
theorem dX5_isLook_163 : decode cX5_isLook 163 = .ok (.ireturn, 1) := by decide +kernel
theorem dX5_cost_0 : decode cX5_cost 0 = .ok (.iload_n 0, 1) := by decide +kernel
theorem dX5_cost_1 : decode cX5_cost 1 = .ok (.tableswitch 72 0 2 #[27, 54, 70], 27) := by decide +kernel
theorem dX5_cost_28 : decode cX5_cost 28 = .ok (.iload_n 1, 1) := by decide +kernel
theorem dX5_cost_29 : decode cX5_cost 29 = .ok (.iconst 1, 1) := by decide +kernel
theorem dX5_cost_30 : decode cX5_cost 30 = .ok (.if_icmp .eq 19, 3) := by decide +kernel
theorem dX5_cost_33 : decode cX5_cost 33 = .ok (.iload_n 1, 1) := by decide +kernel
theorem dX5_cost_34 : decode cX5_cost 34 = .ok (.iconst 2, 1) := by decide +kernel
theorem dX5_cost_35 : decode cX5_cost 35 = .ok (.if_icmp .eq 14, 3) := by decide +kernel
theorem dX5_cost_38 : decode cX5_cost 38 = .ok (.iload_n 1, 1) := by decide +kernel
theorem dX5_cost_39 : decode cX5_cost 39 = .ok (.iconst 5, 1) := by decide +kernel
theorem dX5_cost_40 : decode cX5_cost 40 = .ok (.if_icmp .eq 9, 3) := by decide +kernel
theorem dX5_cost_43 : decode cX5_cost 43 = .ok (.iload_n 1, 1) := by decide +kernel
theorem dX5_cost_44 : decode cX5_cost 44 = .ok (.bipush 7, 2) := by decide +kernel
theorem dX5_cost_46 : decode cX5_cost 46 = .ok (.if_icmp .ne 7, 3) := by decide +kernel
theorem dX5_cost_49 : decode cX5_cost 49 = .ok (.iconst 1, 1) := by decide +kernel
theorem dX5_cost_50 : decode cX5_cost 50 = .ok (.goto 4, 3) := by decide +kernel
theorem dX5_cost_53 : decode cX5_cost 53 = .ok (.iconst 0, 1) := by decide +kernel
theorem dX5_cost_54 : decode cX5_cost 54 = .ok (.ireturn, 1) := by decide +kernel
theorem dX5_cost_55 : decode cX5_cost 55 = .ok (.iload_n 1, 1) := by decide +kernel
theorem dX5_cost_56 : decode cX5_cost 56 = .ok (.iconst 1, 1) := by decide +kernel
theorem dX5_cost_57 : decode cX5_cost 57 = .ok (.if_icmp .eq 8, 3) := by decide +kernel
theorem dX5_cost_60 : decode cX5_cost 60 = .ok (.iload_n 1, 1) := by decide +kernel
theorem dX5_cost_61 : decode cX5_cost 61 = .ok (.iconst 3, 1) := by decide +kernel
theorem dX5_cost_62 : decode cX5_cost 62 = .ok (.if_icmp .ne 7, 3) := by decide +kernel
theorem dX5_cost_65 : decode cX5_cost 65 = .ok (.iconst 1, 1) := by decide +kernel
theorem dX5_cost_66 : decode cX5_cost 66 = .ok (.goto 4, 3) := by decide +kernel
theorem dX5_cost_69 : decode cX5_cost 69 = .ok (.iconst 0, 1) := by decide +kernel
theorem dX5_cost_70 : decode cX5_cost 70 = .ok (.ireturn, 1) := by decide +kernel
theorem dX5_cost_71 : decode cX5_cost 71 = .ok (.iconst 1, 1) := by decide +kernel
theorem dX5_cost_72 : decode cX5_cost 72 = .ok (.ireturn, 1) := by decide +kernel
theorem dX5_cost_73 : decode cX5_cost 73 = .ok (.iload_n 1, 1) := by decide +kernel
theorem dX5_cost_74 : decode cX5_cost 74 = .ok (.ifCond .ne 7, 3) := by decide +kernel
theorem dX5_cost_77 : decode cX5_cost 77 = .ok (.iconst 0, 1) := by decide +kernel
theorem dX5_cost_78 : decode cX5_cost 78 = .ok (.goto 4, 3) := by decide +kernel
theorem dX5_cost_81 : decode cX5_cost 81 = .ok (.iconst 1, 1) := by decide +kernel
theorem dX5_cost_82 : decode cX5_cost 82 = .ok (.ireturn, 1) := by decide +kernel
theorem dX5_changeNudges_0 : decode cX5_changeNudges 0 = .ok (.aload_n 0, 1) := by decide +kernel
theorem dX5_changeNudges_1 : decode cX5_changeNudges 1 = .ok (.getfield 7, 3) := by decide +kernel
theorem dX5_changeNudges_4 : decode cX5_changeNudges 4 = .ok (.iconst 0, 1) := by decide +kernel
theorem dX5_changeNudges_5 : decode cX5_changeNudges 5 = .ok (.iload_n 1, 1) := by decide +kernel
theorem dX5_changeNudges_6 : decode cX5_changeNudges 6 = .ok (.iadd, 1) := by decide +kernel
theorem dX5_changeNudges_7 : decode cX5_changeNudges 7 = .ok (.iaload, 1) := by decide +kernel
theorem dX5_changeNudges_8 : decode cX5_changeNudges 8 = .ok (.istore_n 2, 1) := by decide +kernel
theorem dX5_changeNudges_9 : decode cX5_changeNudges 9 = .ok (.aload_n 0, 1) := by decide +kernel
theorem dX5_changeNudges_10 : decode cX5_changeNudges 10 = .ok (.getfield 7, 3) := by decide +kernel
theorem dX5_changeNudges_13 : decode cX5_changeNudges 13 = .ok (.bipush 6, 2) := by decide +kernel
theorem dX5_changeNudges_15 : decode cX5_changeNudges 15 = .ok (.iload_n 1, 1) := by decide +kernel
theorem dX5_changeNudges_16 : decode cX5_changeNudges 16 = .ok (.iadd, 1) := by decide +kernel
theorem dX5_changeNudges_17 : decode cX5_changeNudges 17 = .ok (.iaload, 1) := by decide +kernel
theorem dX5_changeNudges_18 : decode cX5_changeNudges 18 = .ok (.istore_n 3, 1) := by decide +kernel
theorem dX5_changeNudges_19 : decode cX5_changeNudges 19 = .ok (.iload_n 2, 1) := by decide +kernel
theorem dX5_changeNudges_20 : decode cX5_changeNudges 20 = .ok (.tableswitch 271 0 6 #[44, 76, 127, 157, 179, 201, 258], 44) := by decide +kernel
theorem dX5_changeNudges_64 : decode cX5_changeNudges 64 = .ok (.aload_n 0, 1) := by decide +kernel
theorem dX5_changeNudges_65 : decode cX5_changeNudges 65 = .ok (.getfield 7, 3) := by decide +kernel
theorem dX5_changeNudges_68 : decode cX5_changeNudges 68 = .ok (.bipush 6, 2) := by decide +kernel
theorem dX5_changeNudges_70 : decode cX5_changeNudges 70 = .ok (.iload_n 1, 1) := by decide +kernel
theorem dX5_changeNudges_71 : decode cX5_changeNudges 71 = .ok (.iadd, 1) := by decide +kernel
theorem dX5_changeNudges_72 : decode cX5_changeNudges 72 = .ok (.iconst (-1), 1) := by decide +kernel
theorem dX5_changeNudges_73 : decode cX5_changeNudges 73 = .ok (.iastore, 1) := by decide +kernel
theorem dX5_changeNudges_74 : decode cX5_changeNudges 74 = .ok (.aload_n 0, 1) := by decide +kernel
theorem dX5_changeNudges_75 : decode cX5_changeNudges 75 = .ok (.getfield 7, 3) := by decide +kernel
theorem dX5_changeNudges_78 : decode cX5_changeNudges 78 = .ok (.bipush 12, 2) := by decide +kernel
theorem dX5_changeNudges_80 : decode cX5_changeNudges 80 = .ok (.iload_n 1, 1) := by decide +kernel
theorem dX5_changeNudges_81 : decode cX5_changeNudges 81 = .ok (.iadd, 1) := by decide +kernel
theorem dX5_changeNudges_82 : decode cX5_changeNudges 82 = .ok (.iconst 1, 1) := by decide +kernel
theorem dX5_changeNudges_83 : decode cX5_changeNudges 83 = .ok (.iastore, 1) := by decide +kernel
theorem dX5_changeNudges_84 : decode cX5_changeNudges 84 = .ok (.aload_n 0, 1) := by decide +kernel
theorem dX5_changeNudges_85 : decode cX5_changeNudges 85 = .ok (.getfield 7, 3) := by decide +kernel
theorem dX5_changeNudges_88 : decode cX5_changeNudges 88 = .ok (.iconst 0, 1) := by decide +kernel
theorem dX5_changeNudges_89 : decode cX5_changeNudges 89 = .ok (.iload_n 1, 1) := by decide +kernel
theorem dX5_changeNudges_90 : decode cX5_changeNudges 90 = .ok (.iadd, 1) := by decide +kernel
theorem dX5_changeNudges_91 : decode cX5_changeNudges 91 = .ok (.iconst 1, 1) := by decide +kernel
theorem dX5_changeNudges_92 : decode cX5_changeNudges 92 = .ok (.iastore, 1) := by decide +kernel
theorem dX5_changeNudges_93 : decode cX5_changeNudges 93 = .ok (.goto 217, 3) := by decide +kernel
theorem dX5_changeNudges_96 : decode cX5_changeNudges 96 = .ok (.aload_n 0, 1) := by decide +kernel
theorem dX5_changeNudges_97 : decode cX5_changeNudges 97 = .ok (.getfield 7, 3) := by decide +kernel
theorem dX5_changeNudges_100 : decode cX5_changeNudges 100 = .ok (.bipush 18, 2) := by decide +kernel
theorem dX5_changeNudges_102 : decode cX5_changeNudges 102 = .ok (.iload_n 1, 1) := by decide +kernel
theorem dX5_changeNudges_103 : decode cX5_changeNudges 103 = .ok (.iadd, 1) := by decide +kernel
theorem dX5_changeNudges_104 : decode cX5_changeNudges 104 = .ok (.aload_n 0, 1) := by decide +kernel
theorem dX5_changeNudges_105 : decode cX5_changeNudges 105 = .ok (.getfield 7, 3) := by decide +kernel
theorem dX5_changeNudges_108 : decode cX5_changeNudges 108 = .ok (.bipush 49, 2) := by decide +kernel
theorem dX5_changeNudges_110 : decode cX5_changeNudges 110 = .ok (.iaload, 1) := by decide +kernel
theorem dX5_changeNudges_111 : decode cX5_changeNudges 111 = .ok (.iastore, 1) := by decide +kernel
theorem dX5_changeNudges_112 : decode cX5_changeNudges 112 = .ok (.aload_n 0, 1) := by decide +kernel
theorem dX5_changeNudges_113 : decode cX5_changeNudges 113 = .ok (.getfield 7, 3) := by decide +kernel
theorem dX5_changeNudges_116 : decode cX5_changeNudges 116 = .ok (.iconst 0, 1) := by decide +kernel
theorem dX5_changeNudges_117 : decode cX5_changeNudges 117 = .ok (.iload_n 1, 1) := by decide +kernel
theorem dX5_changeNudges_118 : decode cX5_changeNudges 118 = .ok (.iadd, 1) := by decide +kernel
theorem dX5_changeNudges_119 : decode cX5_changeNudges 119 = .ok (.aload_n 0, 1) := by decide +kernel
theorem dX5_changeNudges_120 : decode cX5_changeNudges 120 = .ok (.getfield 7, 3) := by decide +kernel
theorem dX5_changeNudges_123 : decode cX5_changeNudges 123 = .ok (.bipush 49, 2) := by decide +kernel
theorem dX5_changeNudges_125 : decode cX5_changeNudges 125 = .ok (.iaload, 1) := by decide +kernel
theorem dX5_changeNudges_126 : decode cX5_changeNudges 126 = .ok (.iconst (-1), 1) := by decide +kernel
theorem dX5_changeNudges_127 : decode cX5_changeNudges 127 = .ok (.if_icmp .ne 7, 3) := by decide +kernel
theorem dX5_changeNudges_130 : decode cX5_changeNudges 130 = .ok (.iconst 4, 1) := by decide +kernel
theorem dX5_changeNudges_131 : decode cX5_changeNudges 131 = .ok (.goto 4, 3) := by decide +kernel
theorem dX5_changeNudges_134 : decode cX5_changeNudges 134 = .ok (.iconst 2, 1) := by decide +kernel
theorem dX5_changeNudges_135 : decode cX5_changeNudges 135 = .ok (.iastore, 1) := by decide +kernel
theorem dX5_changeNudges_136 : decode cX5_changeNudges 136 = .ok (.aload_n 0, 1) := by decide +kernel
theorem dX5_changeNudges_137 : decode cX5_changeNudges 137 = .ok (.getfield 7, 3) := by decide +kernel
theorem dX5_changeNudges_140 : decode cX5_changeNudges 140 = .ok (.bipush 49, 2) := by decide +kernel
theorem dX5_changeNudges_142 : decode cX5_changeNudges 142 = .ok (.iload_n 1, 1) := by decide +kernel
theorem dX5_changeNudges_143 : decode cX5_changeNudges 143 = .ok (.iastore, 1) := by decide +kernel
theorem dX5_changeNudges_144 : decode cX5_changeNudges 144 = .ok (.goto 166, 3) := by decide +kernel
theorem dX5_changeNudges_147 : decode cX5_changeNudges 147 = .ok (.aload_n 0, 1) := by decide +kernel
theorem dX5_changeNudges_148 : decode cX5_changeNudges 148 = .ok (.getfield 7, 3) := by decide +kernel
theorem dX5_changeNudges_151 : decode cX5_changeNudges 151 = .ok (.bipush 6, 2) := by decide +kernel
theorem dX5_changeNudges_153 : decode cX5_changeNudges 153 = .ok (.aload_n 0, 1) := by decide +kernel
theorem dX5_changeNudges_154 : decode cX5_changeNudges 154 = .ok (.getfield 7, 3) := by decide +kernel
theorem dX5_changeNudges_157 : decode cX5_changeNudges 157 = .ok (.bipush 18, 2) := by decide +kernel
theorem dX5_changeNudges_159 : decode cX5_changeNudges 159 = .ok (.iload_n 1, 1) := by decide +kernel
theorem dX5_changeNudges_160 : decode cX5_changeNudges 160 = .ok (.iadd, 1) := by decide +kernel
theorem dX5_changeNudges_161 : decode cX5_changeNudges 161 = .ok (.iaload, 1) := by decide +kernel
theorem dX5_changeNudges_162 : decode cX5_changeNudges 162 = .ok (.iadd, 1) := by decide +kernel
theorem dX5_changeNudges_163 : decode cX5_changeNudges 163 = .ok (.iload_n 1, 1) := by decide +kernel
theorem dX5_changeNudges_164 : decode cX5_changeNudges 164 = .ok (.iastore, 1) := by decide +kernel
theorem dX5_changeNudges_165 : decode cX5_changeNudges 165 = .ok (.aload_n 0, 1) := by decide +kernel
theorem dX5_changeNudges_166 : decode cX5_changeNudges 166 = .ok (.getfield 7, 3) := by decide +kernel
theorem dX5_changeNudges_169 : decode cX5_changeNudges 169 = .ok (.iconst 0, 1) := by decide +kernel
theorem dX5_changeNudges_170 : decode cX5_changeNudges 170 = .ok (.iload_n 1, 1) := by decide +kernel
theorem dX5_changeNudges_171 : decode cX5_changeNudges 171 = .ok (.iadd, 1) := by decide +kernel
theorem dX5_changeNudges_172 : decode cX5_changeNudges 172 = .ok (.iconst 3, 1) := by decide +kernel
theorem dX5_changeNudges_173 : decode cX5_changeNudges 173 = .ok (.iastore, 1) := by decide +kernel
theorem dX5_changeNudges_174 : decode cX5_changeNudges 174 = .ok (.goto 136, 3) := by decide +kernel
theorem dX5_changeNudges_177 : decode cX5_changeNudges 177 = .ok (.aload_n 0, 1) := by decide +kernel
theorem dX5_changeNudges_178 : decode cX5_changeNudges 178 = .ok (.getfield 7, 3) := by decide +kernel
theorem dX5_changeNudges_181 : decode cX5_changeNudges 181 = .ok (.bipush 18, 2) := by decide +kernel
theorem dX5_changeNudges_183 : decode cX5_changeNudges 183 = .ok (.iload_n 1, 1) := by decide +kernel
theorem dX5_changeNudges_184 : decode cX5_changeNudges 184 = .ok (.iadd, 1) := by decide +kernel
theorem dX5_changeNudges_185 : decode cX5_changeNudges 185 = .ok (.iconst (-1), 1) := by decide +kernel
theorem dX5_changeNudges_186 : decode cX5_changeNudges 186 = .ok (.iastore, 1) := by decide +kernel
theorem dX5_changeNudges_187 : decode cX5_changeNudges 187 = .ok (.aload_n 0, 1) := by decide +kernel
theorem dX5_changeNudges_188 : decode cX5_changeNudges 188 = .ok (.getfield 7, 3) := by decide +kernel
theorem dX5_changeNudges_191 : decode cX5_changeNudges 191 = .ok (.iconst 0, 1) := by decide +kernel
theorem dX5_changeNudges_192 : decode cX5_changeNudges 192 = .ok (.iload_n 1, 1) := by decide +kernel
theorem dX5_changeNudges_193 : decode cX5_changeNudges 193 = .ok (.iadd, 1) := by decide +kernel
theorem dX5_changeNudges_194 : decode cX5_changeNudges 194 = .ok (.iconst 4, 1) := by decide +kernel
theorem dX5_changeNudges_195 : decode cX5_changeNudges 195 = .ok (.iastore, 1) := by decide +kernel
theorem dX5_changeNudges_196 : decode cX5_changeNudges 196 = .ok (.goto 114, 3) := by decide +kernel
theorem dX5_changeNudges_199 : decode cX5_changeNudges 199 = .ok (.aload_n 0, 1) := by decide +kernel
theorem dX5_changeNudges_200 : decode cX5_changeNudges 200 = .ok (.getfield 7, 3) := by decide +kernel
theorem dX5_changeNudges_203 : decode cX5_changeNudges 203 = .ok (.iconst 0, 1) := by decide +kernel
theorem dX5_changeNudges_204 : decode cX5_changeNudges 204 = .ok (.iload_n 1, 1) := by decide +kernel
theorem dX5_changeNudges_205 : decode cX5_changeNudges 205 = .ok (.iadd, 1) := by decide +kernel
theorem dX5_changeNudges_206 : decode cX5_changeNudges 206 = .ok (.iload_n 3, 1) := by decide +kernel
theorem dX5_changeNudges_207 : decode cX5_changeNudges 207 = .ok (.iconst (-1), 1) := by decide +kernel
theorem dX5_changeNudges_208 : decode cX5_changeNudges 208 = .ok (.if_icmp .ne 7, 3) := by decide +kernel
theorem dX5_changeNudges_211 : decode cX5_changeNudges 211 = .ok (.iconst 5, 1) := by decide +kernel
theorem dX5_changeNudges_212 : decode cX5_changeNudges 212 = .ok (.goto 5, 3) := by decide +kernel
theorem dX5_changeNudges_215 : decode cX5_changeNudges 215 = .ok (.bipush 7, 2) := by decide +kernel
theorem dX5_changeNudges_217 : decode cX5_changeNudges 217 = .ok (.iastore, 1) := by decide +kernel
theorem dX5_changeNudges_218 : decode cX5_changeNudges 218 = .ok (.goto 92, 3) := by decide +kernel
theorem dX5_changeNudges_221 : decode cX5_changeNudges 221 = .ok (.aload_n 0, 1) := by decide +kernel
theorem dX5_changeNudges_222 : decode cX5_changeNudges 222 = .ok (.getfield 7, 3) := by decide +kernel
theorem dX5_changeNudges_225 : decode cX5_changeNudges 225 = .ok (.iconst 0, 1) := by decide +kernel
theorem dX5_changeNudges_226 : decode cX5_changeNudges 226 = .ok (.iload_n 1, 1) := by decide +kernel
theorem dX5_changeNudges_227 : decode cX5_changeNudges 227 = .ok (.iadd, 1) := by decide +kernel
theorem dX5_changeNudges_228 : decode cX5_changeNudges 228 = .ok (.aload_n 0, 1) := by decide +kernel
theorem dX5_changeNudges_229 : decode cX5_changeNudges 229 = .ok (.getfield 7, 3) := by decide +kernel
theorem dX5_changeNudges_232 : decode cX5_changeNudges 232 = .ok (.bipush 49, 2) := by decide +kernel
theorem dX5_changeNudges_234 : decode cX5_changeNudges 234 = .ok (.iaload, 1) := by decide +kernel
theorem dX5_changeNudges_235 : decode cX5_changeNudges 235 = .ok (.iload_n 1, 1) := by decide +kernel
theorem dX5_changeNudges_236 : decode cX5_changeNudges 236 = .ok (.if_icmp .ne 7, 3) := by decide +kernel
theorem dX5_changeNudges_239 : decode cX5_changeNudges 239 = .ok (.iconst 0, 1) := by decide +kernel
theorem dX5_changeNudges_240 : decode cX5_changeNudges 240 = .ok (.goto 5, 3) := by decide +kernel
theorem dX5_changeNudges_243 : decode cX5_changeNudges 243 = .ok (.bipush 6, 2) := by decide +kernel
theorem dX5_changeNudges_245 : decode cX5_changeNudges 245 = .ok (.iastore, 1) := by decide +kernel
theorem dX5_changeNudges_246 : decode cX5_changeNudges 246 = .ok (.aload_n 0, 1) := by decide +kernel
theorem dX5_changeNudges_247 : decode cX5_changeNudges 247 = .ok (.getfield 7, 3) := by decide +kernel
theorem dX5_changeNudges_250 : decode cX5_changeNudges 250 = .ok (.bipush 49, 2) := by decide +kernel
theorem dX5_changeNudges_252 : decode cX5_changeNudges 252 = .ok (.aload_n 0, 1) := by decide +kernel
theorem dX5_changeNudges_253 : decode cX5_changeNudges 253 = .ok (.getfield 7, 3) := by decide +kernel
theorem dX5_changeNudges_256 : decode cX5_changeNudges 256 = .ok (.bipush 49, 2) := by decide +kernel
theorem dX5_changeNudges_258 : decode cX5_changeNudges 258 = .ok (.iaload, 1) := by decide +kernel
theorem dX5_changeNudges_259 : decode cX5_changeNudges 259 = .ok (.iload_n 1, 1) := by decide +kernel
theorem dX5_changeNudges_260 : decode cX5_changeNudges 260 = .ok (.if_icmp .ne 7, 3) := by decide +kernel
theorem dX5_changeNudges_263 : decode cX5_changeNudges 263 = .ok (.iconst (-1), 1) := by decide +kernel
theorem dX5_changeNudges_264 : decode cX5_changeNudges 264 = .ok (.goto 10, 3) := by decide +kernel
theorem dX5_changeNudges_267 : decode cX5_changeNudges 267 = .ok (.aload_n 0, 1) := by decide +kernel
theorem dX5_changeNudges_268 : decode cX5_changeNudges 268 = .ok (.getfield 7, 3) := by decide +kernel
theorem dX5_changeNudges_271 : decode cX5_changeNudges 271 = .ok (.bipush 49, 2) := by decide +kernel
theorem dX5_changeNudges_273 : decode cX5_changeNudges 273 = .ok (.iaload, 1) := by decide +kernel
theorem dX5_changeNudges_274 : decode cX5_changeNudges 274 = .ok (.iastore, 1) := by decide +kernel
theorem dX5_changeNudges_275 : decode cX5_changeNudges 275 = .ok (.goto 35, 3) := by decide +kernel
theorem dX5_changeNudges_278 : decode cX5_changeNudges 278 = .ok (.aload_n 0, 1) := by decide +kernel
theorem dX5_changeNudges_279 : decode cX5_changeNudges 279 = .ok (.getfield 7, 3) := by decide +kernel
theorem dX5_changeNudges_282 : decode cX5_changeNudges 282 = .ok (.iconst 0, 1) := by decide +kernel
theorem dX5_changeNudges_283 : decode cX5_changeNudges 283 = .ok (.iload_n 1, 1) := by decide +kernel
theorem dX5_changeNudges_284 : decode cX5_changeNudges 284 = .ok (.iadd, 1) := by decide +kernel
theorem dX5_changeNudges_285 : decode cX5_changeNudges 285 = .ok (.bipush 7, 2) := by decide +kernel
theorem dX5_changeNudges_287 : decode cX5_changeNudges 287 = .ok (.iastore, 1) := by decide +kernel
theorem dX5_changeNudges_288 : decode cX5_changeNudges 288 = .ok (.goto 22, 3) := by decide +kernel
theorem dX5_changeNudges_291 : decode cX5_changeNudges 291 = .ok (.aload_n 0, 1) := by decide +kernel
theorem dX5_changeNudges_292 : decode cX5_changeNudges 292 = .ok (.getfield 7, 3) := by decide +kernel
theorem dX5_changeNudges_295 : decode cX5_changeNudges 295 = .ok (.bipush 12, 2) := by decide +kernel
theorem dX5_changeNudges_297 : decode cX5_changeNudges 297 = .ok (.iload_n 3, 1) := by decide +kernel
theorem dX5_changeNudges_298 : decode cX5_changeNudges 298 = .ok (.iadd, 1) := by decide +kernel
theorem dX5_changeNudges_299 : decode cX5_changeNudges 299 = .ok (.iconst 0, 1) := by decide +kernel
theorem dX5_changeNudges_300 : decode cX5_changeNudges 300 = .ok (.iastore, 1) := by decide +kernel
theorem dX5_changeNudges_301 : decode cX5_changeNudges 301 = .ok (.aload_n 0, 1) := by decide +kernel
theorem dX5_changeNudges_302 : decode cX5_changeNudges 302 = .ok (.getfield 7, 3) := by decide +kernel
theorem dX5_changeNudges_305 : decode cX5_changeNudges 305 = .ok (.iconst 0, 1) := by decide +kernel
theorem dX5_changeNudges_306 : decode cX5_changeNudges 306 = .ok (.iload_n 1, 1) := by decide +kernel
theorem dX5_changeNudges_307 : decode cX5_changeNudges 307 = .ok (.iadd, 1) := by decide +kernel
theorem dX5_changeNudges_308 : decode cX5_changeNudges 308 = .ok (.iconst 0, 1) := by decide +kernel
theorem dX5_changeNudges_309 : decode cX5_changeNudges 309 = .ok (.iastore, 1) := by decide +kernel
theorem dX5_changeNudges_310 : decode cX5_changeNudges 310 = .ok (.return_, 1) := by decide +kernel
theorem dX5_changeWatching_0 : decode cX5_changeWatching 0 = .ok (.aload_n 0, 1) := by decide +kernel
theorem dX5_changeWatching_1 : decode cX5_changeWatching 1 = .ok (.getfield 7, 3) := by decide +kernel
theorem dX5_changeWatching_4 : decode cX5_changeWatching 4 = .ok (.iconst 0, 1) := by decide +kernel
theorem dX5_changeWatching_5 : decode cX5_changeWatching 5 = .ok (.iload_n 1, 1) := by decide +kernel
theorem dX5_changeWatching_6 : decode cX5_changeWatching 6 = .ok (.iadd, 1) := by decide +kernel
theorem dX5_changeWatching_7 : decode cX5_changeWatching 7 = .ok (.iaload, 1) := by decide +kernel
theorem dX5_changeWatching_8 : decode cX5_changeWatching 8 = .ok (.tableswitch 118 0 3 #[32, 62, 118, 106], 32) := by decide +kernel
theorem dX5_changeWatching_40 : decode cX5_changeWatching 40 = .ok (.aload_n 0, 1) := by decide +kernel
theorem dX5_changeWatching_41 : decode cX5_changeWatching 41 = .ok (.getfield 7, 3) := by decide +kernel
theorem dX5_changeWatching_44 : decode cX5_changeWatching 44 = .ok (.bipush 42, 2) := by decide +kernel
theorem dX5_changeWatching_46 : decode cX5_changeWatching 46 = .ok (.aload_n 0, 1) := by decide +kernel
theorem dX5_changeWatching_47 : decode cX5_changeWatching 47 = .ok (.getfield 7, 3) := by decide +kernel
theorem dX5_changeWatching_50 : decode cX5_changeWatching 50 = .ok (.bipush 24, 2) := by decide +kernel
theorem dX5_changeWatching_52 : decode cX5_changeWatching 52 = .ok (.iload_n 1, 1) := by decide +kernel
theorem dX5_changeWatching_53 : decode cX5_changeWatching 53 = .ok (.iadd, 1) := by decide +kernel
theorem dX5_changeWatching_54 : decode cX5_changeWatching 54 = .ok (.iaload, 1) := by decide +kernel
theorem dX5_changeWatching_55 : decode cX5_changeWatching 55 = .ok (.iadd, 1) := by decide +kernel
theorem dX5_changeWatching_56 : decode cX5_changeWatching 56 = .ok (.iconst 1, 1) := by decide +kernel
theorem dX5_changeWatching_57 : decode cX5_changeWatching 57 = .ok (.iastore, 1) := by decide +kernel
theorem dX5_changeWatching_58 : decode cX5_changeWatching 58 = .ok (.aload_n 0, 1) := by decide +kernel
theorem dX5_changeWatching_59 : decode cX5_changeWatching 59 = .ok (.getfield 7, 3) := by decide +kernel
theorem dX5_changeWatching_62 : decode cX5_changeWatching 62 = .ok (.iconst 0, 1) := by decide +kernel
theorem dX5_changeWatching_63 : decode cX5_changeWatching 63 = .ok (.iload_n 1, 1) := by decide +kernel
theorem dX5_changeWatching_64 : decode cX5_changeWatching 64 = .ok (.iadd, 1) := by decide +kernel
theorem dX5_changeWatching_65 : decode cX5_changeWatching 65 = .ok (.iconst 1, 1) := by decide +kernel
theorem dX5_changeWatching_66 : decode cX5_changeWatching 66 = .ok (.iastore, 1) := by decide +kernel
theorem dX5_changeWatching_67 : decode cX5_changeWatching 67 = .ok (.goto 114, 3) := by decide +kernel
theorem dX5_changeWatching_70 : decode cX5_changeWatching 70 = .ok (.aload_n 0, 1) := by decide +kernel
theorem dX5_changeWatching_71 : decode cX5_changeWatching 71 = .ok (.getfield 7, 3) := by decide +kernel
theorem dX5_changeWatching_74 : decode cX5_changeWatching 74 = .ok (.bipush 30, 2) := by decide +kernel
theorem dX5_changeWatching_76 : decode cX5_changeWatching 76 = .ok (.iload_n 1, 1) := by decide +kernel
theorem dX5_changeWatching_77 : decode cX5_changeWatching 77 = .ok (.iadd, 1) := by decide +kernel
theorem dX5_changeWatching_78 : decode cX5_changeWatching 78 = .ok (.aload_n 0, 1) := by decide +kernel
theorem dX5_changeWatching_79 : decode cX5_changeWatching 79 = .ok (.getfield 7, 3) := by decide +kernel
theorem dX5_changeWatching_82 : decode cX5_changeWatching 82 = .ok (.bipush 49, 2) := by decide +kernel
theorem dX5_changeWatching_84 : decode cX5_changeWatching 84 = .ok (.iaload, 1) := by decide +kernel
theorem dX5_changeWatching_85 : decode cX5_changeWatching 85 = .ok (.iastore, 1) := by decide +kernel
theorem dX5_changeWatching_86 : decode cX5_changeWatching 86 = .ok (.aload_n 0, 1) := by decide +kernel
theorem dX5_changeWatching_87 : decode cX5_changeWatching 87 = .ok (.getfield 7, 3) := by decide +kernel
theorem dX5_changeWatching_90 : decode cX5_changeWatching 90 = .ok (.bipush 49, 2) := by decide +kernel
theorem dX5_changeWatching_92 : decode cX5_changeWatching 92 = .ok (.aload_n 0, 1) := by decide +kernel
theorem dX5_changeWatching_93 : decode cX5_changeWatching 93 = .ok (.getfield 7, 3) := by decide +kernel
theorem dX5_changeWatching_96 : decode cX5_changeWatching 96 = .ok (.bipush 24, 2) := by decide +kernel
theorem dX5_changeWatching_98 : decode cX5_changeWatching 98 = .ok (.iload_n 1, 1) := by decide +kernel
theorem dX5_changeWatching_99 : decode cX5_changeWatching 99 = .ok (.iadd, 1) := by decide +kernel
theorem dX5_changeWatching_100 : decode cX5_changeWatching 100 = .ok (.iaload, 1) := by decide +kernel
theorem dX5_changeWatching_101 : decode cX5_changeWatching 101 = .ok (.iastore, 1) := by decide +kernel
theorem dX5_changeWatching_102 : decode cX5_changeWatching 102 = .ok (.aload_n 0, 1) := by decide +kernel
theorem dX5_changeWatching_103 : decode cX5_changeWatching 103 = .ok (.getfield 7, 3) := by decide +kernel
theorem dX5_changeWatching_106 : decode cX5_changeWatching 106 = .ok (.iconst 0, 1) := by decide +kernel
theorem dX5_changeWatching_107 : decode cX5_changeWatching 107 = .ok (.iload_n 1, 1) := by decide +kernel
theorem dX5_changeWatching_108 : decode cX5_changeWatching 108 = .ok (.iadd, 1) := by decide +kernel
theorem dX5_changeWatching_109 : decode cX5_changeWatching 109 = .ok (.iconst 3, 1) := by decide +kernel
theorem dX5_changeWatching_110 : decode cX5_changeWatching 110 = .ok (.iastore, 1) := by decide +kernel
theorem dX5_changeWatching_111 : decode cX5_changeWatching 111 = .ok (.goto 70, 3) := by decide +kernel
theorem dX5_changeWatching_114 : decode cX5_changeWatching 114 = .ok (.aload_n 0, 1) := by decide +kernel
theorem dX5_changeWatching_115 : decode cX5_changeWatching 115 = .ok (.getfield 7, 3) := by decide +kernel
theorem dX5_changeWatching_118 : decode cX5_changeWatching 118 = .ok (.iconst 0, 1) := by decide +kernel
theorem dX5_changeWatching_119 : decode cX5_changeWatching 119 = .ok (.iload_n 1, 1) := by decide +kernel
theorem dX5_changeWatching_120 : decode cX5_changeWatching 120 = .ok (.iadd, 1) := by decide +kernel
theorem dX5_changeWatching_121 : decode cX5_changeWatching 121 = .ok (.iconst 4, 1) := by decide +kernel
theorem dX5_changeWatching_122 : decode cX5_changeWatching 122 = .ok (.iastore, 1) := by decide +kernel
theorem dX5_changeWatching_123 : decode cX5_changeWatching 123 = .ok (.goto 58, 3) := by decide +kernel
theorem dX5_changeWatching_126 : decode cX5_changeWatching 126 = .ok (.aload_n 0, 1) := by decide +kernel
theorem dX5_changeWatching_127 : decode cX5_changeWatching 127 = .ok (.getfield 7, 3) := by decide +kernel
theorem dX5_changeWatching_130 : decode cX5_changeWatching 130 = .ok (.bipush 42, 2) := by decide +kernel
theorem dX5_changeWatching_132 : decode cX5_changeWatching 132 = .ok (.aload_n 0, 1) := by decide +kernel
theorem dX5_changeWatching_133 : decode cX5_changeWatching 133 = .ok (.getfield 7, 3) := by decide +kernel
theorem dX5_changeWatching_136 : decode cX5_changeWatching 136 = .ok (.bipush 24, 2) := by decide +kernel
theorem dX5_changeWatching_138 : decode cX5_changeWatching 138 = .ok (.iload_n 1, 1) := by decide +kernel
theorem dX5_changeWatching_139 : decode cX5_changeWatching 139 = .ok (.iadd, 1) := by decide +kernel
theorem dX5_changeWatching_140 : decode cX5_changeWatching 140 = .ok (.iaload, 1) := by decide +kernel
theorem dX5_changeWatching_141 : decode cX5_changeWatching 141 = .ok (.iadd, 1) := by decide +kernel
theorem dX5_changeWatching_142 : decode cX5_changeWatching 142 = .ok (.iconst 0, 1) := by decide +kernel
theorem dX5_changeWatching_143 : decode cX5_changeWatching 143 = .ok (.iastore, 1) := by decide +kernel
theorem dX5_changeWatching_144 : decode cX5_changeWatching 144 = .ok (.aload_n 0, 1) := by decide +kernel
theorem dX5_changeWatching_145 : decode cX5_changeWatching 145 = .ok (.getfield 7, 3) := by decide +kernel
theorem dX5_changeWatching_148 : decode cX5_changeWatching 148 = .ok (.bipush 24, 2) := by decide +kernel
theorem dX5_changeWatching_150 : decode cX5_changeWatching 150 = .ok (.iload_n 1, 1) := by decide +kernel
theorem dX5_changeWatching_151 : decode cX5_changeWatching 151 = .ok (.iadd, 1) := by decide +kernel
theorem dX5_changeWatching_152 : decode cX5_changeWatching 152 = .ok (.aload_n 0, 1) := by decide +kernel
theorem dX5_changeWatching_153 : decode cX5_changeWatching 153 = .ok (.getfield 7, 3) := by decide +kernel
theorem dX5_changeWatching_156 : decode cX5_changeWatching 156 = .ok (.bipush 30, 2) := by decide +kernel
theorem dX5_changeWatching_158 : decode cX5_changeWatching 158 = .ok (.iload_n 1, 1) := by decide +kernel
theorem dX5_changeWatching_159 : decode cX5_changeWatching 159 = .ok (.iadd, 1) := by decide +kernel
theorem dX5_changeWatching_160 : decode cX5_changeWatching 160 = .ok (.iaload, 1) := by decide +kernel
theorem dX5_changeWatching_161 : decode cX5_changeWatching 161 = .ok (.iastore, 1) := by decide +kernel
theorem dX5_changeWatching_162 : decode cX5_changeWatching 162 = .ok (.aload_n 0, 1) := by decide +kernel
theorem dX5_changeWatching_163 : decode cX5_changeWatching 163 = .ok (.getfield 7, 3) := by decide +kernel
theorem dX5_changeWatching_166 : decode cX5_changeWatching 166 = .ok (.bipush 30, 2) := by decide +kernel
theorem dX5_changeWatching_168 : decode cX5_changeWatching 168 = .ok (.iload_n 1, 1) := by decide +kernel
theorem dX5_changeWatching_169 : decode cX5_changeWatching 169 = .ok (.iadd, 1) := by decide +kernel
theorem dX5_changeWatching_170 : decode cX5_changeWatching 170 = .ok (.iconst (-1), 1) := by decide +kernel
theorem dX5_changeWatching_171 : decode cX5_changeWatching 171 = .ok (.iastore, 1) := by decide +kernel
theorem dX5_changeWatching_172 : decode cX5_changeWatching 172 = .ok (.aload_n 0, 1) := by decide +kernel
theorem dX5_changeWatching_173 : decode cX5_changeWatching 173 = .ok (.getfield 7, 3) := by decide +kernel
theorem dX5_changeWatching_176 : decode cX5_changeWatching 176 = .ok (.iconst 0, 1) := by decide +kernel
theorem dX5_changeWatching_177 : decode cX5_changeWatching 177 = .ok (.iload_n 1, 1) := by decide +kernel
theorem dX5_changeWatching_178 : decode cX5_changeWatching 178 = .ok (.iadd, 1) := by decide +kernel
theorem dX5_changeWatching_179 : decode cX5_changeWatching 179 = .ok (.iconst 0, 1) := by decide +kernel
theorem dX5_changeWatching_180 : decode cX5_changeWatching 180 = .ok (.iastore, 1) := by decide +kernel
theorem dX5_changeWatching_181 : decode cX5_changeWatching 181 = .ok (.return_, 1) := by decide +kernel
theorem dX5_changeTickets_0 : decode cX5_changeTickets 0 = .ok (.aload_n 0, 1) := by decide +kernel
theorem dX5_changeTickets_1 : decode cX5_changeTickets 1 = .ok (.getfield 7, 3) := by decide +kernel
theorem dX5_changeTickets_4 : decode cX5_changeTickets 4 = .ok (.iconst 0, 1) := by decide +kernel
theorem dX5_changeTickets_5 : decode cX5_changeTickets 5 = .ok (.iload_n 1, 1) := by decide +kernel
theorem dX5_changeTickets_6 : decode cX5_changeTickets 6 = .ok (.iadd, 1) := by decide +kernel
theorem dX5_changeTickets_7 : decode cX5_changeTickets 7 = .ok (.iaload, 1) := by decide +kernel
theorem dX5_changeTickets_8 : decode cX5_changeTickets 8 = .ok (.lookupswitch 79 #[(0, 28), (3, 67)], 28) := by decide +kernel
theorem dX5_changeTickets_36 : decode cX5_changeTickets 36 = .ok (.aload_n 0, 1) := by decide +kernel
theorem dX5_changeTickets_37 : decode cX5_changeTickets 37 = .ok (.getfield 7, 3) := by decide +kernel
theorem dX5_changeTickets_40 : decode cX5_changeTickets 40 = .ok (.bipush 36, 2) := by decide +kernel
theorem dX5_changeTickets_42 : decode cX5_changeTickets 42 = .ok (.iload_n 1, 1) := by decide +kernel
theorem dX5_changeTickets_43 : decode cX5_changeTickets 43 = .ok (.iadd, 1) := by decide +kernel
theorem dX5_changeTickets_44 : decode cX5_changeTickets 44 = .ok (.aload_n 0, 1) := by decide +kernel
theorem dX5_changeTickets_45 : decode cX5_changeTickets 45 = .ok (.getfield 7, 3) := by decide +kernel
theorem dX5_changeTickets_48 : decode cX5_changeTickets 48 = .ok (.bipush 50, 2) := by decide +kernel
theorem dX5_changeTickets_50 : decode cX5_changeTickets 50 = .ok (.iaload, 1) := by decide +kernel
theorem dX5_changeTickets_51 : decode cX5_changeTickets 51 = .ok (.iastore, 1) := by decide +kernel
theorem dX5_changeTickets_52 : decode cX5_changeTickets 52 = .ok (.aload_n 0, 1) := by decide +kernel
