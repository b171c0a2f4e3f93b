theorem dX5_card_0 : decode cX5_card 0 = .ok (.iload_n 1, 1) := by decide +kernel
theorem dX5_card_1 : decode cX5_card 1 = .ok (.iconst 0, 1) := by decide +kernel
theorem dX5_card_2 : decode cX5_card 2 = .ok (.bipush 6, 2) := by decide +kernel
theorem dX5_card_4 : decode cX5_card 4 = .ok (.invokestatic 47, 3) := by decide +kernel
theorem dX5_card_7 : decode cX5_card 7 = .ok (.ifCond .ne 5, 3) := by decide +kernel
theorem dX5_card_10 : decode cX5_card 10 = .ok (.iconst (-1), 1) := by decide +kernel
theorem dX5_card_11 : decode cX5_card 11 = .ok (.ireturn, 1) := by decide +kernel
theorem dX5_card_12 : decode cX5_card 12 = .ok (.aload_n 0, 1) := by decide +kernel
theorem dX5_card_13 : decode cX5_card 13 = .ok (.getfield 7, 3) := by decide +kernel
theorem dX5_card_16 : decode cX5_card 16 = .ok (.bipush 60, 2) := by decide +kernel
theorem dX5_card_18 : decode cX5_card 18 = .ok (.iaload, 1) := by decide +kernel
theorem dX5_card_19 : decode cX5_card 19 = .ok (.iconst 1, 1) := by decide +kernel
theorem dX5_card_20 : decode cX5_card 20 = .ok (.if_icmp .ne 15, 3) := by decide +kernel
theorem dX5_card_23 : decode cX5_card 23 = .ok (.aload_n 0, 1) := by decide +kernel
theorem dX5_card_24 : decode cX5_card 24 = .ok (.getfield 7, 3) := by decide +kernel
theorem dX5_card_27 : decode cX5_card 27 = .ok (.bipush 42, 2) := by decide +kernel
theorem dX5_card_29 : decode cX5_card 29 = .ok (.iload_n 1, 1) := by decide +kernel
theorem dX5_card_30 : decode cX5_card 30 = .ok (.iadd, 1) := by decide +kernel
theorem dX5_card_31 : decode cX5_card 31 = .ok (.iaload, 1) := by decide +kernel
theorem dX5_card_32 : decode cX5_card 32 = .ok (.goto 5, 3) := by decide +kernel
theorem dX5_card_35 : decode cX5_card 35 = .ok (.bipush (-5), 2) := by decide +kernel
theorem dX5_card_37 : decode cX5_card 37 = .ok (.ireturn, 1) := by decide +kernel
theorem dX5_inside_0 : decode cX5_inside 0 = .ok (.bipush (-5), 2) := by decide +kernel
theorem dX5_inside_2 : decode cX5_inside 2 = .ok (.istore_n 1, 1) := by decide +kernel
theorem dX5_inside_3 : decode cX5_inside 3 = .ok (.iconst 5, 1) := by decide +kernel
theorem dX5_inside_4 : decode cX5_inside 4 = .ok (.istore_n 2, 1) := by decide +kernel
theorem dX5_inside_5 : decode cX5_inside 5 = .ok (.iload_n 2, 1) := by decide +kernel
theorem dX5_inside_6 : decode cX5_inside 6 = .ok (.ifCond .lt 27, 3) := by decide +kernel
theorem dX5_inside_9 : decode cX5_inside 9 = .ok (.aload_n 0, 1) := by decide +kernel
theorem dX5_inside_10 : decode cX5_inside 10 = .ok (.getfield 7, 3) := by decide +kernel
theorem dX5_inside_13 : decode cX5_inside 13 = .ok (.iconst 0, 1) := by decide +kernel
theorem dX5_inside_14 : decode cX5_inside 14 = .ok (.iload_n 2, 1) := by decide +kernel
theorem dX5_inside_15 : decode cX5_inside 15 = .ok (.iadd, 1) := by decide +kernel
theorem dX5_inside_16 : decode cX5_inside 16 = .ok (.iaload, 1) := by decide +kernel
theorem dX5_inside_17 : decode cX5_inside 17 = .ok (.iconst 4, 1) := by decide +kernel
theorem dX5_inside_18 : decode cX5_inside 18 = .ok (.if_icmp .ne 7, 3) := by decide +kernel
theorem dX5_inside_21 : decode cX5_inside 21 = .ok (.iload_n 2, 1) := by decide +kernel
theorem dX5_inside_22 : decode cX5_inside 22 = .ok (.goto 4, 3) := by decide +kernel
theorem dX5_inside_25 : decode cX5_inside 25 = .ok (.iload_n 1, 1) := by decide +kernel
theorem dX5_inside_26 : decode cX5_inside 26 = .ok (.istore_n 1, 1) := by decide +kernel
theorem dX5_inside_27 : decode cX5_inside 27 = .ok (.iinc 2 (-1), 3) := by decide +kernel
theorem dX5_inside_30 : decode cX5_inside 30 = .ok (.goto (-25), 3) := by decide +kernel
theorem dX5_inside_33 : decode cX5_inside 33 = .ok (.iload_n 1, 1) := by decide +kernel
theorem dX5_inside_34 : decode cX5_inside 34 = .ok (.ireturn, 1) := by decide +kernel
theorem dX5_atStage_0 : decode cX5_atStage 0 = .ok (.iconst 0, 1) := by decide +kernel
theorem dX5_atStage_1 : decode cX5_atStage 1 = .ok (.istore_n 2, 1) := by decide +kernel
theorem dX5_atStage_2 : decode cX5_atStage 2 = .ok (.iconst 0, 1) := by decide +kernel
theorem dX5_atStage_3 : decode cX5_atStage 3 = .ok (.istore_n 3, 1) := by decide +kernel
theorem dX5_atStage_4 : decode cX5_atStage 4 = .ok (.iload_n 3, 1) := by decide +kernel
theorem dX5_atStage_5 : decode cX5_atStage 5 = .ok (.bipush 6, 2) := by decide +kernel
theorem dX5_atStage_7 : decode cX5_atStage 7 = .ok (.if_icmp .ge 29, 3) := by decide +kernel
theorem dX5_atStage_10 : decode cX5_atStage 10 = .ok (.iload_n 2, 1) := by decide +kernel
theorem dX5_atStage_11 : decode cX5_atStage 11 = .ok (.aload_n 0, 1) := by decide +kernel
theorem dX5_atStage_12 : decode cX5_atStage 12 = .ok (.getfield 7, 3) := by decide +kernel
theorem dX5_atStage_15 : decode cX5_atStage 15 = .ok (.iconst 0, 1) := by decide +kernel
theorem dX5_atStage_16 : decode cX5_atStage 16 = .ok (.iload_n 3, 1) := by decide +kernel
theorem dX5_atStage_17 : decode cX5_atStage 17 = .ok (.iadd, 1) := by decide +kernel
theorem dX5_atStage_18 : decode cX5_atStage 18 = .ok (.iaload, 1) := by decide +kernel
theorem dX5_atStage_19 : decode cX5_atStage 19 = .ok (.iload_n 1, 1) := by decide +kernel
theorem dX5_atStage_20 : decode cX5_atStage 20 = .ok (.if_icmp .ne 7, 3) := by decide +kernel
theorem dX5_atStage_23 : decode cX5_atStage 23 = .ok (.iconst 1, 1) := by decide +kernel
theorem dX5_atStage_24 : decode cX5_atStage 24 = .ok (.goto 4, 3) := by decide +kernel
theorem dX5_atStage_27 : decode cX5_atStage 27 = .ok (.iconst 0, 1) := by decide +kernel
theorem dX5_atStage_28 : decode cX5_atStage 28 = .ok (.iadd, 1) := by decide +kernel
theorem dX5_atStage_29 : decode cX5_atStage 29 = .ok (.istore_n 2, 1) := by decide +kernel
theorem dX5_atStage_30 : decode cX5_atStage 30 = .ok (.iinc 3 1, 3) := by decide +kernel
theorem dX5_atStage_33 : decode cX5_atStage 33 = .ok (.goto (-29), 3) := by decide +kernel
theorem dX5_atStage_36 : decode cX5_atStage 36 = .ok (.iload_n 2, 1) := by decide +kernel
theorem dX5_atStage_37 : decode cX5_atStage 37 = .ok (.ireturn, 1) := by decide +kernel
set_option maxRecDepth 20000 in
theorem ggX5_total_X5_inside : GoodIn wsX5_total wsX5_inside := goodIn_r _ [8, 1, 21, 22, 23, 24, 25, 26, 27, 28, 29, 30, 31, 32, 33, 34, 35, 36, 37, 38] (by decide +kernel) (by decide +kernel)
set_option maxRecDepth 20000 in
theorem gX5_total_X5_inside : GoodIn wsX5_total (wsV RX5 137 RX5 yX5_inside wsX5_inside) := goodIn_app (goodIn_of _ (by decide +kernel)) ggX5_total_X5_inside
set_option maxRecDepth 20000 in
theorem ggX5_total_X5_notAway : GoodIn wsX5_total wsX5_notAway := goodIn_r _ [12, 1, 21, 22, 23, 24, 25, 26, 27, 28, 29, 30, 31, 32, 33, 34, 35, 36, 37, 38] (by decide +kernel) (by decide +kernel)
set_option maxRecDepth 20000 in
theorem gX5_total_X5_notAway : GoodIn wsX5_total (wsV RX5 63 RX5 yX5_notAway wsX5_notAway) := goodIn_app (goodIn_of _ (by decide +kernel)) ggX5_total_X5_notAway
set_option maxRecDepth 20000 in
theorem ggX5_total_X5_atStage : GoodIn wsX5_total wsX5_atStage := goodIn_r _ [16, 1, 21, 22, 23, 24, 25, 26, 27, 28, 29, 30, 31, 32, 33, 34, 35, 36, 37, 38] (by decide +kernel) (by decide +kernel)
set_option maxRecDepth 20000 in
theorem gX5_total_X5_atStage : GoodIn wsX5_total (wsV RX5 140 RX5 yX5_atStage wsX5_atStage) := goodIn_app (goodIn_of _ (by decide +kernel)) ggX5_total_X5_atStage
set_option maxRecDepth 20000 in
theorem ggX5_total_X5_sum : GoodIn wsX5_total wsX5_sum := goodIn_r _ [20, 1, 21, 22, 23, 24, 25, 26, 27, 28, 29, 30, 31, 32, 33, 34, 35, 36, 37, 38] (by decide +kernel) (by decide +kernel)
set_option maxRecDepth 20000 in
theorem gX5_total_X5_sum : GoodIn wsX5_total (wsV RX5 106 RX5 yX5_sum wsX5_sum) := goodIn_app (goodIn_of _ (by decide +kernel)) ggX5_total_X5_sum
theorem dX5_total_0 : decode cX5_total 0 = .ok (.aload_n 0, 1) := by decide +kernel
theorem dX5_total_1 : decode cX5_total 1 = .ok (.getfield 7, 3) := by decide +kernel
theorem dX5_total_4 : decode cX5_total 4 = .ok (.bipush 60, 2) := by decide +kernel
theorem dX5_total_6 : decode cX5_total 6 = .ok (.iaload, 1) := by decide +kernel
theorem dX5_total_7 : decode cX5_total 7 = .ok (.istore_n 2, 1) := by decide +kernel
theorem dX5_total_8 : decode cX5_total 8 = .ok (.iload_n 1, 1) := by decide +kernel
theorem dX5_total_9 : decode cX5_total 9 = .ok (.tableswitch 222 0 14 #[75, 77, 82, 111, 116, 122, 129, 136, 143, 150, 168, 186, 204, 212, 217], 75) := by decide +kernel
theorem dX5_total_84 : decode cX5_total 84 = .ok (.iload_n 2, 1) := by decide +kernel
theorem dX5_total_85 : decode cX5_total 85 = .ok (.ireturn, 1) := by decide +kernel
theorem dX5_total_86 : decode cX5_total 86 = .ok (.aload_n 0, 1) := by decide +kernel
theorem dX5_total_87 : decode cX5_total 87 = .ok (.invokevirtual 137, 3) := by decide +kernel
theorem dX5_total_90 : decode cX5_total 90 = .ok (.ireturn, 1) := by decide +kernel
theorem dX5_total_91 : decode cX5_total 91 = .ok (.iload_n 2, 1) := by decide +kernel
theorem dX5_total_92 : decode cX5_total 92 = .ok (.iconst 1, 1) := by decide +kernel
theorem dX5_total_93 : decode cX5_total 93 = .ok (.if_icmp .gt 14, 3) := by decide +kernel
theorem dX5_total_96 : decode cX5_total 96 = .ok (.aload_n 0, 1) := by decide +kernel
theorem dX5_total_97 : decode cX5_total 97 = .ok (.getfield 7, 3) := by decide +kernel
theorem dX5_total_100 : decode cX5_total 100 = .ok (.bipush 49, 2) := by decide +kernel
theorem dX5_total_102 : decode cX5_total 102 = .ok (.iaload, 1) := by decide +kernel
theorem dX5_total_103 : decode cX5_total 103 = .ok (.iconst (-1), 1) := by decide +kernel
theorem dX5_total_104 : decode cX5_total 104 = .ok (.if_icmp .ne 8, 3) := by decide +kernel
theorem dX5_total_107 : decode cX5_total 107 = .ok (.bipush (-5), 2) := by decide +kernel
theorem dX5_total_109 : decode cX5_total 109 = .ok (.goto 10, 3) := by decide +kernel
theorem dX5_total_112 : decode cX5_total 112 = .ok (.aload_n 0, 1) := by decide +kernel
theorem dX5_total_113 : decode cX5_total 113 = .ok (.getfield 7, 3) := by decide +kernel
theorem dX5_total_116 : decode cX5_total 116 = .ok (.bipush 49, 2) := by decide +kernel
theorem dX5_total_118 : decode cX5_total 118 = .ok (.iaload, 1) := by decide +kernel
theorem dX5_total_119 : decode cX5_total 119 = .ok (.ireturn, 1) := by decide +kernel
theorem dX5_total_120 : decode cX5_total 120 = .ok (.aload_n 0, 1) := by decide +kernel
theorem dX5_total_121 : decode cX5_total 121 = .ok (.invokevirtual 63, 3) := by decide +kernel
theorem dX5_total_124 : decode cX5_total 124 = .ok (.ireturn, 1) := by decide +kernel
theorem dX5_total_125 : decode cX5_total 125 = .ok (.aload_n 0, 1) := by decide +kernel
theorem dX5_total_126 : decode cX5_total 126 = .ok (.iconst 2, 1) := by decide +kernel
theorem dX5_total_127 : decode cX5_total 127 = .ok (.invokevirtual 140, 3) := by decide +kernel
theorem dX5_total_130 : decode cX5_total 130 = .ok (.ireturn, 1) := by decide +kernel
theorem dX5_total_131 : decode cX5_total 131 = .ok (.aload_n 0, 1) := by decide +kernel
theorem dX5_total_132 : decode cX5_total 132 = .ok (.bipush 62, 2) := by decide +kernel
theorem dX5_total_134 : decode cX5_total 134 = .ok (.invokevirtual 106, 3) := by decide +kernel
theorem dX5_total_137 : decode cX5_total 137 = .ok (.ireturn, 1) := by decide +kernel
theorem dX5_total_138 : decode cX5_total 138 = .ok (.aload_n 0, 1) := by decide +kernel
theorem dX5_total_139 : decode cX5_total 139 = .ok (.bipush 68, 2) := by decide +kernel
theorem dX5_total_141 : decode cX5_total 141 = .ok (.invokevirtual 106, 3) := by decide +kernel
theorem dX5_total_144 : decode cX5_total 144 = .ok (.ireturn, 1) := by decide +kernel
theorem dX5_total_145 : decode cX5_total 145 = .ok (.aload_n 0, 1) := by decide +kernel
theorem dX5_total_146 : decode cX5_total 146 = .ok (.bipush 74, 2) := by decide +kernel
theorem dX5_total_148 : decode cX5_total 148 = .ok (.invokevirtual 106, 3) := by decide +kernel
theorem dX5_total_151 : decode cX5_total 151 = .ok (.ireturn, 1) := by decide +kernel
theorem dX5_total_152 : decode cX5_total 152 = .ok (.aload_n 0, 1) := by decide +kernel
theorem dX5_total_153 : decode cX5_total 153 = .ok (.bipush 80, 2) := by decide +kernel
theorem dX5_total_155 : decode cX5_total 155 = .ok (.invokevirtual 106, 3) := by decide +kernel
theorem dX5_total_158 : decode cX5_total 158 = .ok (.ireturn, 1) := by decide +kernel
theorem dX5_total_159 : decode cX5_total 159 = .ok (.iload_n 2, 1) := by decide +kernel
theorem dX5_total_160 : decode cX5_total 160 = .ok (.iconst 2, 1) := by decide +kernel
theorem dX5_total_161 : decode cX5_total 161 = .ok (.if_icmp .ne 13, 3) := by decide +kernel
theorem dX5_total_164 : decode cX5_total 164 = .ok (.aload_n 0, 1) := by decide +kernel
theorem dX5_total_165 : decode cX5_total 165 = .ok (.getfield 7, 3) := by decide +kernel
theorem dX5_total_168 : decode cX5_total 168 = .ok (.bipush 50, 2) := by decide +kernel
theorem dX5_total_170 : decode cX5_total 170 = .ok (.iaload, 1) := by decide +kernel
theorem dX5_total_171 : decode cX5_total 171 = .ok (.goto 5, 3) := by decide +kernel
theorem dX5_total_174 : decode cX5_total 174 = .ok (.bipush (-5), 2) := by decide +kernel
theorem dX5_total_176 : decode cX5_total 176 = .ok (.ireturn, 1) := by decide +kernel
theorem dX5_total_177 : decode cX5_total 177 = .ok (.iload_n 2, 1) := by decide +kernel
theorem dX5_total_178 : decode cX5_total 178 = .ok (.iconst 2, 1) := by decide +kernel
theorem dX5_total_179 : decode cX5_total 179 = .ok (.if_icmp .ne 13, 3) := by decide +kernel
theorem dX5_total_182 : decode cX5_total 182 = .ok (.aload_n 0, 1) := by decide +kernel
theorem dX5_total_183 : decode cX5_total 183 = .ok (.getfield 7, 3) := by decide +kernel
theorem dX5_total_186 : decode cX5_total 186 = .ok (.bipush 51, 2) := by decide +kernel
theorem dX5_total_188 : decode cX5_total 188 = .ok (.iaload, 1) := by decide +kernel
theorem dX5_total_189 : decode cX5_total 189 = .ok (.goto 5, 3) := by decide +kernel
theorem dX5_total_192 : decode cX5_total 192 = .ok (.bipush (-5), 2) := by decide +kernel
theorem dX5_total_194 : decode cX5_total 194 = .ok (.ireturn, 1) := by decide +kernel
theorem dX5_total_195 : decode cX5_total 195 = .ok (.iload_n 2, 1) := by decide +kernel
theorem dX5_total_196 : decode cX5_total 196 = .ok (.iconst 3, 1) := by decide +kernel
theorem dX5_total_197 : decode cX5_total 197 = .ok (.if_icmp .ne 13, 3) := by decide +kernel
theorem dX5_total_200 : decode cX5_total 200 = .ok (.aload_n 0, 1) := by decide +kernel
theorem dX5_total_201 : decode cX5_total 201 = .ok (.getfield 7, 3) := by decide +kernel
theorem dX5_total_204 : decode cX5_total 204 = .ok (.bipush 52, 2) := by decide +kernel
theorem dX5_total_206 : decode cX5_total 206 = .ok (.iaload, 1) := by decide +kernel
theorem dX5_total_207 : decode cX5_total 207 = .ok (.goto 5, 3) := by decide +kernel
theorem dX5_total_210 : decode cX5_total 210 = .ok (.bipush (-5), 2) := by decide +kernel
theorem dX5_total_212 : decode cX5_total 212 = .ok (.ireturn, 1) := by decide +kernel
theorem dX5_total_213 : decode cX5_total 213 = .ok (.aload_n 0, 1) := by decide +kernel
theorem dX5_total_214 : decode cX5_total 214 = .ok (.getfield 7, 3) := by decide +kernel
theorem dX5_total_217 : decode cX5_total 217 = .ok (.bipush 61, 2) := by decide +kernel
theorem dX5_total_219 : decode cX5_total 219 = .ok (.iaload, 1) := by decide +kernel
theorem dX5_total_220 : decode cX5_total 220 = .ok (.ireturn, 1) := by decide +kernel
theorem dX5_total_221 : decode cX5_total 221 = .ok (.aload_n 0, 1) := by decide +kernel
theorem dX5_total_222 : decode cX5_total 222 = .ok (.getfield 51, 3) := by decide +kernel
theorem dX5_total_225 : decode cX5_total 225 = .ok (.ireturn, 1) := by decide +kernel
theorem dX5_total_226 : decode cX5_total 226 = .ok (.aload_n 0, 1) := by decide +kernel
theorem dX5_total_227 : decode cX5_total 227 = .ok (.getfield 125, 3) := by decide +kernel
theorem dX5_total_230 : decode cX5_total 230 = .ok (.ireturn, 1) := by decide +kernel
theorem dX5_total_231 : decode cX5_total 231 = .ok (.bipush (-2), 2) := by decide +kernel
theorem dX5_total_233 : decode cX5_total 233 = .ok (.ireturn, 1) := by decide +kernel
set_option maxRecDepth 20000 in
theorem ggX5_wouldLook_X5_isVisitor : GoodIn wsX5_wouldLook wsX5_isVisitor := goodIn_r _ [4, 5, 6, 3, 7] (by decide +kernel) (by decide +kernel)
set_option maxRecDepth 20000 in
theorem gX5_wouldLook_X5_isVisitor : GoodIn wsX5_wouldLook (va_wsS RX5 100 yX5_isVisitor wsX5_isVisitor) := goodIn_app (goodIn_of _ (by decide +kernel)) ggX5_wouldLook_X5_isVisitor
set_option maxRecDepth 20000 in
theorem ggX5_wouldLook_X5_isLook : GoodIn wsX5_wouldLook wsX5_isLook := goodIn_r _ [11, 12, 13, 14, 15, 16, 17, 18, 19, 20, 21, 22, 23, 24, 25, 26, 27, 28, 29, 30] (by decide +kernel) (by decide +kernel)
set_option maxRecDepth 20000 in
theorem gX5_wouldLook_X5_isLook : GoodIn wsX5_wouldLook (wsV RX5 86 RX5 yX5_isLook wsX5_isLook) := goodIn_app (goodIn_of _ (by decide +kernel)) ggX5_wouldLook_X5_isLook
theorem dX5_wouldLook_0 : decode cX5_wouldLook 0 = .ok (.iload_n 1, 1) := by decide +kernel
theorem dX5_wouldLook_1 : decode cX5_wouldLook 1 = .ok (.invokestatic 100, 3) := by decide +kernel
theorem dX5_wouldLook_4 : decode cX5_wouldLook 4 = .ok (.ifCond .ne 7, 3) := by decide +kernel
theorem dX5_wouldLook_7 : decode cX5_wouldLook 7 = .ok (.iconst (-1), 1) := by decide +kernel
theorem dX5_wouldLook_8 : decode cX5_wouldLook 8 = .ok (.goto 16, 3) := by decide +kernel
theorem dX5_wouldLook_11 : decode cX5_wouldLook 11 = .ok (.aload_n 0, 1) := by decide +kernel
theorem dX5_wouldLook_12 : decode cX5_wouldLook 12 = .ok (.iload_n 1, 1) := by decide +kernel
theorem dX5_wouldLook_13 : decode cX5_wouldLook 13 = .ok (.invokevirtual 86, 3) := by decide +kernel
theorem dX5_wouldLook_16 : decode cX5_wouldLook 16 = .ok (.ifCond .eq 7, 3) := by decide +kernel
theorem dX5_wouldLook_19 : decode cX5_wouldLook 19 = .ok (.iconst 1, 1) := by decide +kernel
theorem dX5_wouldLook_20 : decode cX5_wouldLook 20 = .ok (.goto 4, 3) := by decide +kernel
theorem dX5_wouldLook_23 : decode cX5_wouldLook 23 = .ok (.iconst 0, 1) := by decide +kernel
theorem dX5_wouldLook_24 : decode cX5_wouldLook 24 = .ok (.ireturn, 1) := by decide +kernel
set_option maxRecDepth 20000 in
theorem ggX5_wouldTouch_X5_isVisitor : GoodIn wsX5_wouldTouch wsX5_isVisitor := goodIn_r _ [5, 6, 7, 4, 8] (by decide +kernel) (by decide +kernel)
set_option maxRecDepth 20000 in
theorem gX5_wouldTouch_X5_isVisitor : GoodIn wsX5_wouldTouch (va_wsS RX5 100 yX5_isVisitor wsX5_isVisitor) := goodIn_app (goodIn_of _ (by decide +kernel)) ggX5_wouldTouch_X5_isVisitor
set_option maxRecDepth 20000 in
theorem ggX5_wouldTouch_X5_cost : GoodIn wsX5_wouldTouch wsX5_cost := goodIn_r _ [11] (by decide +kernel) (by decide +kernel)
set_option maxRecDepth 20000 in
theorem gX5_wouldTouch_X5_cost : GoodIn wsX5_wouldTouch (va_wsS RX5 90 yX5_cost wsX5_cost) := goodIn_app (goodIn_of _ (by decide +kernel)) ggX5_wouldTouch_X5_cost
theorem dX5_wouldTouch_0 : decode cX5_wouldTouch 0 = .ok (.iload_n 1, 1) := by decide +kernel
theorem dX5_wouldTouch_1 : decode cX5_wouldTouch 1 = .ok (.invokestatic 100, 3) := by decide +kernel
theorem dX5_wouldTouch_4 : decode cX5_wouldTouch 4 = .ok (.ifCond .eq 24, 3) := by decide +kernel
theorem dX5_wouldTouch_7 : decode cX5_wouldTouch 7 = .ok (.aload_n 0, 1) := by decide +kernel
theorem dX5_wouldTouch_8 : decode cX5_wouldTouch 8 = .ok (.getfield 7, 3) := by decide +kernel
theorem dX5_wouldTouch_11 : decode cX5_wouldTouch 11 = .ok (.bipush 60, 2) := by decide +kernel
theorem dX5_wouldTouch_13 : decode cX5_wouldTouch 13 = .ok (.iaload, 1) := by decide +kernel
theorem dX5_wouldTouch_14 : decode cX5_wouldTouch 14 = .ok (.aload_n 0, 1) := by decide +kernel
theorem dX5_wouldTouch_15 : decode cX5_wouldTouch 15 = .ok (.getfield 7, 3) := by decide +kernel
theorem dX5_wouldTouch_18 : decode cX5_wouldTouch 18 = .ok (.iconst 0, 1) := by decide +kernel
theorem dX5_wouldTouch_19 : decode cX5_wouldTouch 19 = .ok (.iload_n 1, 1) := by decide +kernel
theorem dX5_wouldTouch_20 : decode cX5_wouldTouch 20 = .ok (.iadd, 1) := by decide +kernel
theorem dX5_wouldTouch_21 : decode cX5_wouldTouch 21 = .ok (.iaload, 1) := by decide +kernel
theorem dX5_wouldTouch_22 : decode cX5_wouldTouch 22 = .ok (.invokestatic 90, 3) := by decide +kernel
theorem dX5_wouldTouch_25 : decode cX5_wouldTouch 25 = .ok (.goto 4, 3) := by decide +kernel
theorem dX5_wouldTouch_28 : decode cX5_wouldTouch 28 = .ok (.iconst (-1), 1) := by decide +kernel
theorem dX5_wouldTouch_29 : decode cX5_wouldTouch 29 = .ok (.ireturn, 1) := by decide +kernel
set_option maxRecDepth 20000 in
theorem ggX5_collect_X5_copyRow : GoodIn wsX5_collect wsX5_copyRow := goodIn_r _ [9] (by decide +kernel) (by decide +kernel)
set_option maxRecDepth 20000 in
theorem gX5_collect_X5_copyRow : GoodIn wsX5_collect (va_wsS RX5 55 yX5_copyRow wsX5_copyRow) := goodIn_app (goodIn_of _ (by decide +kernel)) ggX5_collect_X5_copyRow
theorem dX5_collect_0 : decode cX5_collect 0 = .ok (.iconst 0, 1) := by decide +kernel
theorem dX5_collect_1 : decode cX5_collect 1 = .ok (.istore_n 1, 1) := by decide +kernel
theorem dX5_collect_2 : decode cX5_collect 2 = .ok (.iload_n 1, 1) := by decide +kernel
theorem dX5_collect_3 : decode cX5_collect 3 = .ok (.aload_n 0, 1) := by decide +kernel
theorem dX5_collect_4 : decode cX5_collect 4 = .ok (.getfield 143, 3) := by decide +kernel
theorem dX5_collect_7 : decode cX5_collect 7 = .ok (.if_icmp .ge 105, 3) := by decide +kernel
theorem dX5_collect_10 : decode cX5_collect 10 = .ok (.aload_n 0, 1) := by decide +kernel
theorem dX5_collect_11 : decode cX5_collect 11 = .ok (.getfield 40, 3) := by decide +kernel
theorem dX5_collect_14 : decode cX5_collect 14 = .ok (.bipush 55, 2) := by decide +kernel
theorem dX5_collect_16 : decode cX5_collect 16 = .ok (.iload_n 1, 1) := by decide +kernel
theorem dX5_collect_17 : decode cX5_collect 17 = .ok (.imul, 1) := by decide +kernel
theorem dX5_collect_18 : decode cX5_collect 18 = .ok (.bipush 53, 2) := by decide +kernel
theorem dX5_collect_20 : decode cX5_collect 20 = .ok (.iadd, 1) := by decide +kernel
theorem dX5_collect_21 : decode cX5_collect 21 = .ok (.iaload, 1) := by decide +kernel
theorem dX5_collect_22 : decode cX5_collect 22 = .ok (.aload_n 0, 1) := by decide +kernel
theorem dX5_collect_23 : decode cX5_collect 23 = .ok (.getfield 146, 3) := by decide +kernel
theorem dX5_collect_26 : decode cX5_collect 26 = .ok (.if_icmp .ne 28, 3) := by decide +kernel
theorem dX5_collect_29 : decode cX5_collect 29 = .ok (.aload_n 0, 1) := by decide +kernel
theorem dX5_collect_30 : decode cX5_collect 30 = .ok (.getfield 40, 3) := by decide +kernel
theorem dX5_collect_33 : decode cX5_collect 33 = .ok (.bipush 55, 2) := by decide +kernel
theorem dX5_collect_35 : decode cX5_collect 35 = .ok (.iload_n 1, 1) := by decide +kernel
theorem dX5_collect_36 : decode cX5_collect 36 = .ok (.imul, 1) := by decide +kernel
theorem dX5_collect_37 : decode cX5_collect 37 = .ok (.bipush 53, 2) := by decide +kernel
theorem dX5_collect_39 : decode cX5_collect 39 = .ok (.iadd, 1) := by decide +kernel
theorem dX5_collect_40 : decode cX5_collect 40 = .ok (.iconst 1, 1) := by decide +kernel
theorem dX5_collect_41 : decode cX5_collect 41 = .ok (.iadd, 1) := by decide +kernel
theorem dX5_collect_42 : decode cX5_collect 42 = .ok (.iaload, 1) := by decide +kernel
theorem dX5_collect_43 : decode cX5_collect 43 = .ok (.aload_n 0, 1) := by decide +kernel
theorem dX5_collect_44 : decode cX5_collect 44 = .ok (.getfield 149, 3) := by decide +kernel
theorem dX5_collect_47 : decode cX5_collect 47 = .ok (.if_icmp .ne 7, 3) := by decide +kernel
theorem dX5_collect_50 : decode cX5_collect 50 = .ok (.iconst 1, 1) := by decide +kernel
theorem dX5_collect_51 : decode cX5_collect 51 = .ok (.goto 4, 3) := by decide +kernel
theorem dX5_collect_54 : decode cX5_collect 54 = .ok (.iconst 0, 1) := by decide +kernel
theorem dX5_collect_55 : decode cX5_collect 55 = .ok (.istore_n 2, 1) := by decide +kernel
theorem dX5_collect_56 : decode cX5_collect 56 = .ok (.iconst 0, 1) := by decide +kernel
theorem dX5_collect_57 : decode cX5_collect 57 = .ok (.istore_n 3, 1) := by decide +kernel
theorem dX5_collect_58 : decode cX5_collect 58 = .ok (.iload_n 3, 1) := by decide +kernel
theorem dX5_collect_59 : decode cX5_collect 59 = .ok (.bipush 53, 2) := by decide +kernel
theorem dX5_collect_61 : decode cX5_collect 61 = .ok (.if_icmp .ge 39, 3) := by decide +kernel
theorem dX5_collect_64 : decode cX5_collect 64 = .ok (.iload_n 2, 1) := by decide +kernel
theorem dX5_collect_65 : decode cX5_collect 65 = .ok (.ifCond .eq 35, 3) := by decide +kernel
theorem dX5_collect_68 : decode cX5_collect 68 = .ok (.aload_n 0, 1) := by decide +kernel
theorem dX5_collect_69 : decode cX5_collect 69 = .ok (.getfield 40, 3) := by decide +kernel
theorem dX5_collect_72 : decode cX5_collect 72 = .ok (.bipush 55, 2) := by decide +kernel
theorem dX5_collect_74 : decode cX5_collect 74 = .ok (.iload_n 1, 1) := by decide +kernel
theorem dX5_collect_75 : decode cX5_collect 75 = .ok (.imul, 1) := by decide +kernel
theorem dX5_collect_76 : decode cX5_collect 76 = .ok (.iload_n 3, 1) := by decide +kernel
theorem dX5_collect_77 : decode cX5_collect 77 = .ok (.iadd, 1) := by decide +kernel
theorem dX5_collect_78 : decode cX5_collect 78 = .ok (.iaload, 1) := by decide +kernel
theorem dX5_collect_79 : decode cX5_collect 79 = .ok (.aload_n 0, 1) := by decide +kernel
theorem dX5_collect_80 : decode cX5_collect 80 = .ok (.getfield 7, 3) := by decide +kernel
theorem dX5_collect_83 : decode cX5_collect 83 = .ok (.iload_n 3, 1) := by decide +kernel
theorem dX5_collect_84 : decode cX5_collect 84 = .ok (.iaload, 1) := by decide +kernel
theorem dX5_collect_85 : decode cX5_collect 85 = .ok (.if_icmp .ne 7, 3) := by decide +kernel
theorem dX5_collect_88 : decode cX5_collect 88 = .ok (.iconst 1, 1) := by decide +kernel
theorem dX5_collect_89 : decode cX5_collect 89 = .ok (.goto 4, 3) := by decide +kernel
theorem dX5_collect_92 : decode cX5_collect 92 = .ok (.iconst 0, 1) := by decide +kernel
theorem dX5_collect_93 : decode cX5_collect 93 = .ok (.istore_n 2, 1) := by decide +kernel
theorem dX5_collect_94 : decode cX5_collect 94 = .ok (.iinc 3 1, 3) := by decide +kernel
theorem dX5_collect_97 : decode cX5_collect 97 = .ok (.goto (-39), 3) := by decide +kernel
theorem dX5_collect_100 : decode cX5_collect 100 = .ok (.iload_n 2, 1) := by decide +kernel
theorem dX5_collect_101 : decode cX5_collect 101 = .ok (.ifCond .eq 5, 3) := by decide +kernel
theorem dX5_collect_104 : decode cX5_collect 104 = .ok (.iconst 1, 1) := by decide +kernel
theorem dX5_collect_105 : decode cX5_collect 105 = .ok (.ireturn, 1) := by decide +kernel
theorem dX5_collect_106 : decode cX5_collect 106 = .ok (.iinc 1 1, 3) := by decide +kernel
theorem dX5_collect_109 : decode cX5_collect 109 = .ok (.goto (-107), 3) := by decide +kernel
theorem dX5_collect_112 : decode cX5_collect 112 = .ok (.aload_n 0, 1) := by decide +kernel
theorem dX5_collect_113 : decode cX5_collect 113 = .ok (.getfield 143, 3) := by decide +kernel
theorem dX5_collect_116 : decode cX5_collect 116 = .ok (.sipush 300, 3) := by decide +kernel
theorem dX5_collect_119 : decode cX5_collect 119 = .ok (.if_icmp .ne 5, 3) := by decide +kernel
theorem dX5_collect_122 : decode cX5_collect 122 = .ok (.iconst 0, 1) := by decide +kernel
theorem dX5_collect_123 : decode cX5_collect 123 = .ok (.ireturn, 1) := by decide +kernel
theorem dX5_collect_124 : decode cX5_collect 124 = .ok (.aload_n 0, 1) := by decide +kernel
theorem dX5_collect_125 : decode cX5_collect 125 = .ok (.getfield 7, 3) := by decide +kernel
theorem dX5_collect_128 : decode cX5_collect 128 = .ok (.iconst 0, 1) := by decide +kernel
theorem dX5_collect_129 : decode cX5_collect 129 = .ok (.aload_n 0, 1) := by decide +kernel
theorem dX5_collect_130 : decode cX5_collect 130 = .ok (.getfield 40, 3) := by decide +kernel
theorem dX5_collect_133 : decode cX5_collect 133 = .ok (.bipush 55, 2) := by decide +kernel
theorem dX5_collect_135 : decode cX5_collect 135 = .ok (.aload_n 0, 1) := by decide +kernel
theorem dX5_collect_136 : decode cX5_collect 136 = .ok (.getfield 143, 3) := by decide +kernel
theorem dX5_collect_139 : decode cX5_collect 139 = .ok (.imul, 1) := by decide +kernel
theorem dX5_collect_140 : decode cX5_collect 140 = .ok (.bipush 53, 2) := by decide +kernel
theorem dX5_collect_142 : decode cX5_collect 142 = .ok (.invokestatic 55, 3) := by decide +kernel
theorem dX5_collect_145 : decode cX5_collect 145 = .ok (.aload_n 0, 1) := by decide +kernel
theorem dX5_collect_146 : decode cX5_collect 146 = .ok (.getfield 40, 3) := by decide +kernel
theorem dX5_collect_149 : decode cX5_collect 149 = .ok (.bipush 55, 2) := by decide +kernel
theorem dX5_collect_151 : decode cX5_collect 151 = .ok (.aload_n 0, 1) := by decide +kernel
theorem dX5_collect_152 : decode cX5_collect 152 = .ok (.getfield 143, 3) := by decide +kernel
theorem dX5_collect_155 : decode cX5_collect 155 = .ok (.imul, 1) := by decide +kernel
theorem dX5_collect_156 : decode cX5_collect 156 = .ok (.bipush 53, 2) := by decide +kernel
theorem dX5_collect_158 : decode cX5_collect 158 = .ok (.iadd, 1) := by decide +kernel
theorem dX5_collect_159 : decode cX5_collect 159 = .ok (.aload_n 0, 1) := by decide +kernel
theorem dX5_collect_160 : decode cX5_collect 160 = .ok (.getfield 146, 3) := by decide +kernel
theorem dX5_collect_163 : decode cX5_collect 163 = .ok (.iastore, 1) := by decide +kernel
theorem dX5_collect_164 : decode cX5_collect 164 = .ok (.aload_n 0, 1) := by decide +kernel
theorem dX5_collect_165 : decode cX5_collect 165 = .ok (.getfield 40, 3) := by decide +kernel
theorem dX5_collect_168 : decode cX5_collect 168 = .ok (.bipush 55, 2) := by decide +kernel
theorem dX5_collect_170 : decode cX5_collect 170 = .ok (.aload_n 0, 1) := by decide +kernel
theorem dX5_collect_171 : decode cX5_collect 171 = .ok (.getfield 143, 3) := by decide +kernel
theorem dX5_collect_174 : decode cX5_collect 174 = .ok (.imul, 1) := by decide +kernel
theorem dX5_collect_175 : decode cX5_collect 175 = .ok (.bipush 53, 2) := by decide +kernel
theorem dX5_collect_177 : decode cX5_collect 177 = .ok (.iadd, 1) := by decide +kernel
theorem dX5_collect_178 : decode cX5_collect 178 = .ok (.iconst 1, 1) := by decide +kernel
theorem dX5_collect_179 : decode cX5_collect 179 = .ok (.iadd, 1) := by decide +kernel
theorem dX5_collect_180 : decode cX5_collect 180 = .ok (.aload_n 0, 1) := by decide +kernel
theorem dX5_collect_181 : decode cX5_collect 181 = .ok (.getfield 149, 3) := by decide +kernel
theorem dX5_collect_184 : decode cX5_collect 184 = .ok (.iastore, 1) := by decide +kernel
theorem dX5_collect_185 : decode cX5_collect 185 = .ok (.aload_n 0, 1) := by decide +kernel
theorem dX5_collect_186 : decode cX5_collect 186 = .ok (.dup, 1) := by decide +kernel
theorem dX5_collect_187 : decode cX5_collect 187 = .ok (.getfield 143, 3) := by decide +kernel
theorem dX5_collect_190 : decode cX5_collect 190 = .ok (.iconst 1, 1) := by decide +kernel
theorem dX5_collect_191 : decode cX5_collect 191 = .ok (.iadd, 1) := by decide +kernel
theorem dX5_collect_192 : decode cX5_collect 192 = .ok (.putfield 143, 3) := by decide +kernel
theorem dX5_collect_195 : decode cX5_collect 195 = .ok (.iconst 1, 1) := by decide +kernel
theorem dX5_collect_196 : decode cX5_collect 196 = .ok (.ireturn, 1) := by decide +kernel
set_option maxRecDepth 20000 in
theorem ggX5_takeFound_X5_copyRow : GoodIn wsX5_takeFound wsX5_copyRow := goodIn_r _ [8] (by decide +kernel) (by decide +kernel)
set_option maxRecDepth 20000 in
theorem gX5_takeFound_X5_copyRow : GoodIn wsX5_takeFound (va_wsS RX5 55 yX5_copyRow wsX5_copyRow) := goodIn_app (goodIn_of _ (by decide +kernel)) ggX5_takeFound_X5_copyRow
theorem dX5_takeFound_0 : decode cX5_takeFound 0 = .ok (.aload_n 0, 1) := by decide +kernel
theorem dX5_takeFound_1 : decode cX5_takeFound 1 = .ok (.getfield 40, 3) := by decide +kernel
theorem dX5_takeFound_4 : decode cX5_takeFound 4 = .ok (.bipush 55, 2) := by decide +kernel
theorem dX5_takeFound_6 : decode cX5_takeFound 6 = .ok (.iload_n 1, 1) := by decide +kernel
theorem dX5_takeFound_7 : decode cX5_takeFound 7 = .ok (.imul, 1) := by decide +kernel
theorem dX5_takeFound_8 : decode cX5_takeFound 8 = .ok (.aload_n 0, 1) := by decide +kernel
theorem dX5_takeFound_9 : decode cX5_takeFound 9 = .ok (.getfield 7, 3) := by decide +kernel
theorem dX5_takeFound_12 : decode cX5_takeFound 12 = .ok (.iconst 0, 1) := by decide +kernel
theorem dX5_takeFound_13 : decode cX5_takeFound 13 = .ok (.bipush 53, 2) := by decide +kernel
theorem dX5_takeFound_15 : decode cX5_takeFound 15 = .ok (.invokestatic 55, 3) := by decide +kernel
theorem dX5_takeFound_18 : decode cX5_takeFound 18 = .ok (.aload_n 0, 1) := by decide +kernel
theorem dX5_takeFound_19 : decode cX5_takeFound 19 = .ok (.aload_n 0, 1) := by decide +kernel
theorem dX5_takeFound_20 : decode cX5_takeFound 20 = .ok (.getfield 40, 3) := by decide +kernel
theorem dX5_takeFound_23 : decode cX5_takeFound 23 = .ok (.bipush 55, 2) := by decide +kernel
theorem dX5_takeFound_25 : decode cX5_takeFound 25 = .ok (.iload_n 1, 1) := by decide +kernel
theorem dX5_takeFound_26 : decode cX5_takeFound 26 = .ok (.imul, 1) := by decide +kernel
theorem dX5_takeFound_27 : decode cX5_takeFound 27 = .ok (.bipush 53, 2) := by decide +kernel
theorem dX5_takeFound_29 : decode cX5_takeFound 29 = .ok (.iadd, 1) := by decide +kernel
theorem dX5_takeFound_30 : decode cX5_takeFound 30 = .ok (.iaload, 1) := by decide +kernel
theorem dX5_takeFound_31 : decode cX5_takeFound 31 = .ok (.putfield 146, 3) := by decide +kernel
theorem dX5_takeFound_34 : decode cX5_takeFound 34 = .ok (.aload_n 0, 1) := by decide +kernel
theorem dX5_takeFound_35 : decode cX5_takeFound 35 = .ok (.aload_n 0, 1) := by decide +kernel
theorem dX5_takeFound_36 : decode cX5_takeFound 36 = .ok (.getfield 40, 3) := by decide +kernel
theorem dX5_takeFound_39 : decode cX5_takeFound 39 = .ok (.bipush 55, 2) := by decide +kernel
theorem dX5_takeFound_41 : decode cX5_takeFound 41 = .ok (.iload_n 1, 1) := by decide +kernel
theorem dX5_takeFound_42 : decode cX5_takeFound 42 = .ok (.imul, 1) := by decide +kernel
theorem dX5_takeFound_43 : decode cX5_takeFound 43 = .ok (.bipush 53, 2) := by decide +kernel
theorem dX5_takeFound_45 : decode cX5_takeFound 45 = .ok (.iadd, 1) := by decide +kernel
theorem dX5_takeFound_46 : decode cX5_takeFound 46 = .ok (.iconst 1, 1) := by decide +kernel
theorem dX5_takeFound_47 : decode cX5_takeFound 47 = .ok (.iadd, 1) := by decide +kernel
theorem dX5_takeFound_48 : decode cX5_takeFound 48 = .ok (.iaload, 1) := by decide +kernel
theorem dX5_takeFound_49 : decode cX5_takeFound 49 = .ok (.putfield 149, 3) := by decide +kernel
theorem dX5_takeFound_52 : decode cX5_takeFound 52 = .ok (.return_, 1) := by decide +kernel
set_option maxRecDepth 20000 in
theorem ggX5_follow_X5_takeFound : GoodIn wsX5_follow wsX5_takeFound := goodIn_r _ [8, 9, 2, 1, 3, 10, 11, 7, 12, 42, 43, 44, 45, 46, 47, 48, 49, 50, 51, 52, 53, 54, 55, 56, 57, 58, 59] (by decide +kernel) (by decide +kernel)
set_option maxRecDepth 20000 in
theorem gX5_follow_X5_takeFound : GoodIn wsX5_follow (wsV RX5 152 RX5 yX5_takeFound wsX5_takeFound) := goodIn_app (goodIn_of _ (by decide +kernel)) ggX5_follow_X5_takeFound
set_option maxRecDepth 20000 in
theorem ggX5_follow_X5_isLook : GoodIn wsX5_follow wsX5_isLook := goodIn_r _ [16, 2, 42, 43, 44, 45, 46, 47, 48, 49, 50, 51, 52, 53, 54, 55, 56, 57, 58, 59] (by decide +kernel) (by decide +kernel)
set_option maxRecDepth 20000 in
theorem gX5_follow_X5_isLook : GoodIn wsX5_follow (wsV RX5 86 RX5 yX5_isLook wsX5_isLook) := goodIn_app (goodIn_of _ (by decide +kernel)) ggX5_follow_X5_isLook
set_option maxRecDepth 20000 in
theorem ggX5_follow_X5_change : GoodIn wsX5_follow wsX5_change := goodIn_r _ [20, 2, 21, 22, 23, 7, 24, 25, 26, 27, 28, 29, 30, 31, 32, 33, 34, 35, 36, 42, 43, 44, 45, 46, 47, 48, 49, 50, 51, 52, 53, 54, 55, 56, 57, 58, 59] (by decide +kernel) (by decide +kernel)
set_option maxRecDepth 20000 in
theorem gX5_follow_X5_change : GoodIn wsX5_follow (wsV RX5 94 RX5 yX5_change wsX5_change) := goodIn_app (goodIn_of _ (by decide +kernel)) ggX5_follow_X5_change
set_option maxRecDepth 20000 in
theorem ggX5_follow_X5_collect : GoodIn wsX5_follow wsX5_collect := goodIn_r _ [40, 41, 9, 1, 3, 2, 10, 11, 7, 12, 42, 43, 44, 45, 46, 47, 48, 49, 50, 51, 52, 53, 54, 55, 56, 57, 58, 59] (by decide +kernel) (by decide +kernel)
set_option maxRecDepth 20000 in
theorem gX5_follow_X5_collect : GoodIn wsX5_follow (wsV RX5 155 RX5 yX5_collect wsX5_collect) := goodIn_app (goodIn_of _ (by decide +kernel)) ggX5_follow_X5_collect
theorem dX5_follow_0 : decode cX5_follow 0 = .ok (.iconst 1, 1) := by decide +kernel
theorem dX5_follow_1 : decode cX5_follow 1 = .ok (.istore 4, 2) := by decide +kernel
theorem dX5_follow_3 : decode cX5_follow 3 = .ok (.aload_n 0, 1) := by decide +kernel
theorem dX5_follow_4 : decode cX5_follow 4 = .ok (.iload_n 1, 1) := by decide +kernel
theorem dX5_follow_5 : decode cX5_follow 5 = .ok (.invokevirtual 152, 3) := by decide +kernel
theorem dX5_follow_8 : decode cX5_follow 8 = .ok (.aload_n 0, 1) := by decide +kernel
theorem dX5_follow_9 : decode cX5_follow 9 = .ok (.getfield 146, 3) := by decide +kernel
theorem dX5_follow_12 : decode cX5_follow 12 = .ok (.ifCond .ne 42, 3) := by decide +kernel
theorem dX5_follow_15 : decode cX5_follow 15 = .ok (.aload_n 0, 1) := by decide +kernel
theorem dX5_follow_16 : decode cX5_follow 16 = .ok (.iload_n 2, 1) := by decide +kernel
theorem dX5_follow_17 : decode cX5_follow 17 = .ok (.invokevirtual 86, 3) := by decide +kernel
theorem dX5_follow_20 : decode cX5_follow 20 = .ok (.ifCond .ne 34, 3) := by decide +kernel
theorem dX5_follow_23 : decode cX5_follow 23 = .ok (.aload_n 0, 1) := by decide +kernel
theorem dX5_follow_24 : decode cX5_follow 24 = .ok (.iload_n 2, 1) := by decide +kernel
theorem dX5_follow_25 : decode cX5_follow 25 = .ok (.invokevirtual 94, 3) := by decide +kernel
theorem dX5_follow_28 : decode cX5_follow 28 = .ok (.aload_n 0, 1) := by decide +kernel
theorem dX5_follow_29 : decode cX5_follow 29 = .ok (.aload_n 0, 1) := by decide +kernel
theorem dX5_follow_30 : decode cX5_follow 30 = .ok (.getfield 7, 3) := by decide +kernel
theorem dX5_follow_33 : decode cX5_follow 33 = .ok (.iconst 0, 1) := by decide +kernel
theorem dX5_follow_34 : decode cX5_follow 34 = .ok (.iload_n 2, 1) := by decide +kernel
theorem dX5_follow_35 : decode cX5_follow 35 = .ok (.iadd, 1) := by decide +kernel
theorem dX5_follow_36 : decode cX5_follow 36 = .ok (.iaload, 1) := by decide +kernel
theorem dX5_follow_37 : decode cX5_follow 37 = .ok (.ifCond .ne 7, 3) := by decide +kernel
theorem dX5_follow_40 : decode cX5_follow 40 = .ok (.iconst 1, 1) := by decide +kernel
theorem dX5_follow_41 : decode cX5_follow 41 = .ok (.goto 4, 3) := by decide +kernel
theorem dX5_follow_44 : decode cX5_follow 44 = .ok (.iconst 0, 1) := by decide +kernel
theorem dX5_follow_45 : decode cX5_follow 45 = .ok (.putfield 146, 3) := by decide +kernel
theorem dX5_follow_48 : decode cX5_follow 48 = .ok (.aload_n 0, 1) := by decide +kernel
theorem dX5_follow_49 : decode cX5_follow 49 = .ok (.invokevirtual 155, 3) := by decide +kernel
theorem dX5_follow_52 : decode cX5_follow 52 = .ok (.istore 4, 2) := by decide +kernel
theorem dX5_follow_54 : decode cX5_follow 54 = .ok (.aload_n 0, 1) := by decide +kernel
theorem dX5_follow_55 : decode cX5_follow 55 = .ok (.iload_n 1, 1) := by decide +kernel
theorem dX5_follow_56 : decode cX5_follow 56 = .ok (.invokevirtual 152, 3) := by decide +kernel
theorem dX5_follow_59 : decode cX5_follow 59 = .ok (.iload 4, 2) := by decide +kernel
theorem dX5_follow_61 : decode cX5_follow 61 = .ok (.ifCond .eq 49, 3) := by decide +kernel
theorem dX5_follow_64 : decode cX5_follow 64 = .ok (.aload_n 0, 1) := by decide +kernel
theorem dX5_follow_65 : decode cX5_follow 65 = .ok (.getfield 149, 3) := by decide +kernel
theorem dX5_follow_68 : decode cX5_follow 68 = .ok (.ifCond .ne 42, 3) := by decide +kernel
theorem dX5_follow_71 : decode cX5_follow 71 = .ok (.aload_n 0, 1) := by decide +kernel
theorem dX5_follow_72 : decode cX5_follow 72 = .ok (.iload_n 3, 1) := by decide +kernel
theorem dX5_follow_73 : decode cX5_follow 73 = .ok (.invokevirtual 86, 3) := by decide +kernel
theorem dX5_follow_76 : decode cX5_follow 76 = .ok (.ifCond .ne 34, 3) := by decide +kernel
theorem dX5_follow_79 : decode cX5_follow 79 = .ok (.aload_n 0, 1) := by decide +kernel
theorem dX5_follow_80 : decode cX5_follow 80 = .ok (.iload_n 3, 1) := by decide +kernel
theorem dX5_follow_81 : decode cX5_follow 81 = .ok (.invokevirtual 94, 3) := by decide +kernel
theorem dX5_follow_84 : decode cX5_follow 84 = .ok (.aload_n 0, 1) := by decide +kernel
theorem dX5_follow_85 : decode cX5_follow 85 = .ok (.aload_n 0, 1) := by decide +kernel
theorem dX5_follow_86 : decode cX5_follow 86 = .ok (.getfield 7, 3) := by decide +kernel
theorem dX5_follow_89 : decode cX5_follow 89 = .ok (.iconst 0, 1) := by decide +kernel
theorem dX5_follow_90 : decode cX5_follow 90 = .ok (.iload_n 3, 1) := by decide +kernel
theorem dX5_follow_91 : decode cX5_follow 91 = .ok (.iadd, 1) := by decide +kernel
theorem dX5_follow_92 : decode cX5_follow 92 = .ok (.iaload, 1) := by decide +kernel
theorem dX5_follow_93 : decode cX5_follow 93 = .ok (.ifCond .ne 7, 3) := by decide +kernel
theorem dX5_follow_96 : decode cX5_follow 96 = .ok (.iconst 1, 1) := by decide +kernel
theorem dX5_follow_97 : decode cX5_follow 97 = .ok (.goto 4, 3) := by decide +kernel
theorem dX5_follow_100 : decode cX5_follow 100 = .ok (.iconst 0, 1) := by decide +kernel
theorem dX5_follow_101 : decode cX5_follow 101 = .ok (.putfield 149, 3) := by decide +kernel
theorem dX5_follow_104 : decode cX5_follow 104 = .ok (.aload_n 0, 1) := by decide +kernel
theorem dX5_follow_105 : decode cX5_follow 105 = .ok (.invokevirtual 155, 3) := by decide +kernel
theorem dX5_follow_108 : decode cX5_follow 108 = .ok (.istore 4, 2) := by decide +kernel
theorem dX5_follow_110 : decode cX5_follow 110 = .ok (.iload 4, 2) := by decide +kernel
theorem dX5_follow_112 : decode cX5_follow 112 = .ok (.ireturn, 1) := by decide +kernel
set_option maxRecDepth 20000 in
theorem ggX5_countFound_X5_takeFound : GoodIn wsX5_countFound wsX5_takeFound := goodIn_r _ [9, 10, 2, 3, 4, 11, 12, 8, 13, 18, 19, 20, 21, 22, 23, 24, 25, 26, 27, 28, 29, 30, 31, 32, 33, 34, 35] (by decide +kernel) (by decide +kernel)
set_option maxRecDepth 20000 in
theorem gX5_countFound_X5_takeFound : GoodIn wsX5_countFound (wsV RX5 152 RX5 yX5_takeFound wsX5_takeFound) := goodIn_app (goodIn_of _ (by decide +kernel)) ggX5_countFound_X5_takeFound
set_option maxRecDepth 20000 in
theorem ggX5_countFound_X5_isLook : GoodIn wsX5_countFound wsX5_isLook := goodIn_r _ [17, 2, 18, 19, 20, 21, 22, 23, 24, 25, 26, 27, 28, 29, 30, 31, 32, 33, 34, 35] (by decide +kernel) (by decide +kernel)
set_option maxRecDepth 20000 in
theorem gX5_countFound_X5_isLook : GoodIn wsX5_countFound (wsV RX5 86 RX5 yX5_isLook wsX5_isLook) := goodIn_app (goodIn_of _ (by decide +kernel)) ggX5_countFound_X5_isLook
theorem dX5_countFound_0 : decode cX5_countFound 0 = .ok (.iconst 0, 1) := by decide +kernel
theorem dX5_countFound_1 : decode cX5_countFound 1 = .ok (.istore 4, 2) := by decide +kernel
theorem dX5_countFound_3 : decode cX5_countFound 3 = .ok (.iconst 0, 1) := by decide +kernel
theorem dX5_countFound_4 : decode cX5_countFound 4 = .ok (.istore 5, 2) := by decide +kernel
theorem dX5_countFound_6 : decode cX5_countFound 6 = .ok (.iload 5, 2) := by decide +kernel
theorem dX5_countFound_8 : decode cX5_countFound 8 = .ok (.aload_n 0, 1) := by decide +kernel
theorem dX5_countFound_9 : decode cX5_countFound 9 = .ok (.getfield 143, 3) := by decide +kernel
theorem dX5_countFound_12 : decode cX5_countFound 12 = .ok (.if_icmp .ge 126, 3) := by decide +kernel
theorem dX5_countFound_15 : decode cX5_countFound 15 = .ok (.aload_n 0, 1) := by decide +kernel
theorem dX5_countFound_16 : decode cX5_countFound 16 = .ok (.iload 5, 2) := by decide +kernel
theorem dX5_countFound_18 : decode cX5_countFound 18 = .ok (.invokevirtual 152, 3) := by decide +kernel
theorem dX5_countFound_21 : decode cX5_countFound 21 = .ok (.aload_n 0, 1) := by decide +kernel
theorem dX5_countFound_22 : decode cX5_countFound 22 = .ok (.getfield 7, 3) := by decide +kernel
theorem dX5_countFound_25 : decode cX5_countFound 25 = .ok (.iconst 0, 1) := by decide +kernel
theorem dX5_countFound_26 : decode cX5_countFound 26 = .ok (.iload_n 1, 1) := by decide +kernel
theorem dX5_countFound_27 : decode cX5_countFound 27 = .ok (.iadd, 1) := by decide +kernel
theorem dX5_countFound_28 : decode cX5_countFound 28 = .ok (.iaload, 1) := by decide +kernel
theorem dX5_countFound_29 : decode cX5_countFound 29 = .ok (.iconst 4, 1) := by decide +kernel
theorem dX5_countFound_30 : decode cX5_countFound 30 = .ok (.if_icmp .ne 19, 3) := by decide +kernel
theorem dX5_countFound_33 : decode cX5_countFound 33 = .ok (.aload_n 0, 1) := by decide +kernel
theorem dX5_countFound_34 : decode cX5_countFound 34 = .ok (.getfield 7, 3) := by decide +kernel
theorem dX5_countFound_37 : decode cX5_countFound 37 = .ok (.iconst 0, 1) := by decide +kernel
theorem dX5_countFound_38 : decode cX5_countFound 38 = .ok (.iload_n 2, 1) := by decide +kernel
theorem dX5_countFound_39 : decode cX5_countFound 39 = .ok (.iadd, 1) := by decide +kernel
theorem dX5_countFound_40 : decode cX5_countFound 40 = .ok (.iaload, 1) := by decide +kernel
theorem dX5_countFound_41 : decode cX5_countFound 41 = .ok (.iconst 4, 1) := by decide +kernel
theorem dX5_countFound_42 : decode cX5_countFound 42 = .ok (.if_icmp .ne 7, 3) := by decide +kernel
theorem dX5_countFound_45 : decode cX5_countFound 45 = .ok (.iconst 1, 1) := by decide +kernel
theorem dX5_countFound_46 : decode cX5_countFound 46 = .ok (.goto 4, 3) := by decide +kernel
theorem dX5_countFound_49 : decode cX5_countFound 49 = .ok (.iconst 0, 1) := by decide +kernel
theorem dX5_countFound_50 : decode cX5_countFound 50 = .ok (.istore 6, 2) := by decide +kernel
theorem dX5_countFound_52 : decode cX5_countFound 52 = .ok (.aload_n 0, 1) := by decide +kernel
theorem dX5_countFound_53 : decode cX5_countFound 53 = .ok (.getfield 146, 3) := by decide +kernel
theorem dX5_countFound_56 : decode cX5_countFound 56 = .ok (.ifCond .eq 10, 3) := by decide +kernel
theorem dX5_countFound_59 : decode cX5_countFound 59 = .ok (.aload_n 0, 1) := by decide +kernel
theorem dX5_countFound_60 : decode cX5_countFound 60 = .ok (.getfield 149, 3) := by decide +kernel
theorem dX5_countFound_63 : decode cX5_countFound 63 = .ok (.ifCond .ne 39, 3) := by decide +kernel
theorem dX5_countFound_66 : decode cX5_countFound 66 = .ok (.aload_n 0, 1) := by decide +kernel
theorem dX5_countFound_67 : decode cX5_countFound 67 = .ok (.getfield 146, 3) := by decide +kernel
theorem dX5_countFound_70 : decode cX5_countFound 70 = .ok (.iconst 1, 1) := by decide +kernel
theorem dX5_countFound_71 : decode cX5_countFound 71 = .ok (.if_icmp .eq 11, 3) := by decide +kernel
theorem dX5_countFound_74 : decode cX5_countFound 74 = .ok (.aload_n 0, 1) := by decide +kernel
theorem dX5_countFound_75 : decode cX5_countFound 75 = .ok (.iload_n 1, 1) := by decide +kernel
theorem dX5_countFound_76 : decode cX5_countFound 76 = .ok (.invokevirtual 86, 3) := by decide +kernel
theorem dX5_countFound_79 : decode cX5_countFound 79 = .ok (.ifCond .eq 23, 3) := by decide +kernel
theorem dX5_countFound_82 : decode cX5_countFound 82 = .ok (.aload_n 0, 1) := by decide +kernel
theorem dX5_countFound_83 : decode cX5_countFound 83 = .ok (.getfield 149, 3) := by decide +kernel
theorem dX5_countFound_86 : decode cX5_countFound 86 = .ok (.iconst 1, 1) := by decide +kernel
theorem dX5_countFound_87 : decode cX5_countFound 87 = .ok (.if_icmp .eq 11, 3) := by decide +kernel
theorem dX5_countFound_90 : decode cX5_countFound 90 = .ok (.aload_n 0, 1) := by decide +kernel
theorem dX5_countFound_91 : decode cX5_countFound 91 = .ok (.iload_n 2, 1) := by decide +kernel
theorem dX5_countFound_92 : decode cX5_countFound 92 = .ok (.invokevirtual 86, 3) := by decide +kernel
theorem dX5_countFound_95 : decode cX5_countFound 95 = .ok (.ifCond .eq 7, 3) := by decide +kernel
theorem dX5_countFound_98 : decode cX5_countFound 98 = .ok (.iconst 1, 1) := by decide +kernel
theorem dX5_countFound_99 : decode cX5_countFound 99 = .ok (.goto 4, 3) := by decide +kernel
theorem dX5_countFound_102 : decode cX5_countFound 102 = .ok (.iconst 0, 1) := by decide +kernel
theorem dX5_countFound_103 : decode cX5_countFound 103 = .ok (.istore 7, 2) := by decide +kernel
theorem dX5_countFound_105 : decode cX5_countFound 105 = .ok (.iload 4, 2) := by decide +kernel
theorem dX5_countFound_107 : decode cX5_countFound 107 = .ok (.iload_n 3, 1) := by decide +kernel
theorem dX5_countFound_108 : decode cX5_countFound 108 = .ok (.ifCond .eq 11, 3) := by decide +kernel
theorem dX5_countFound_111 : decode cX5_countFound 111 = .ok (.iload 6, 2) := by decide +kernel
theorem dX5_countFound_113 : decode cX5_countFound 113 = .ok (.ifCond .eq 15, 3) := by decide +kernel
theorem dX5_countFound_116 : decode cX5_countFound 116 = .ok (.goto 8, 3) := by decide +kernel
theorem dX5_countFound_119 : decode cX5_countFound 119 = .ok (.iload 7, 2) := by decide +kernel
theorem dX5_countFound_121 : decode cX5_countFound 121 = .ok (.ifCond .eq 7, 3) := by decide +kernel
theorem dX5_countFound_124 : decode cX5_countFound 124 = .ok (.iconst 1, 1) := by decide +kernel
theorem dX5_countFound_125 : decode cX5_countFound 125 = .ok (.goto 4, 3) := by decide +kernel
theorem dX5_countFound_128 : decode cX5_countFound 128 = .ok (.iconst 0, 1) := by decide +kernel
theorem dX5_countFound_129 : decode cX5_countFound 129 = .ok (.iadd, 1) := by decide +kernel
theorem dX5_countFound_130 : decode cX5_countFound 130 = .ok (.istore 4, 2) := by decide +kernel
theorem dX5_countFound_132 : decode cX5_countFound 132 = .ok (.iinc 5 1, 3) := by decide +kernel
theorem dX5_countFound_135 : decode cX5_countFound 135 = .ok (.goto (-129), 3) := by decide +kernel
theorem dX5_countFound_138 : decode cX5_countFound 138 = .ok (.iload 4, 2) := by decide +kernel
theorem dX5_countFound_140 : decode cX5_countFound 140 = .ok (.ireturn, 1) := by decide +kernel
set_option maxRecDepth 20000 in
theorem ggX5_orders_X5_isVisitor : GoodIn wsX5_orders wsX5_isVisitor := goodIn_r _ [9, 10, 11, 8, 12] (by decide +kernel) (by decide +kernel)
set_option maxRecDepth 20000 in
theorem gX5_orders_X5_isVisitor : GoodIn wsX5_orders (va_wsS RX5 100 yX5_isVisitor wsX5_isVisitor) := goodIn_app (goodIn_of _ (by decide +kernel)) ggX5_orders_X5_isVisitor
set_option maxRecDepth 20000 in
theorem ggX5_orders_X5_in : GoodIn wsX5_orders wsX5_in := goodIn_r _ [12] (by decide +kernel) (by decide +kernel)
set_option maxRecDepth 20000 in
theorem gX5_orders_X5_in : GoodIn wsX5_orders (va_wsS RX5 47 yX5_in wsX5_in) := goodIn_app (goodIn_of _ (by decide +kernel)) ggX5_orders_X5_in
set_option maxRecDepth 20000 in
theorem ggX5_orders_X5_copyRow : GoodIn wsX5_orders wsX5_copyRow := goodIn_r _ [15] (by decide +kernel) (by decide +kernel)
set_option maxRecDepth 20000 in
theorem gX5_orders_X5_copyRow : GoodIn wsX5_orders (va_wsS RX5 55 yX5_copyRow wsX5_copyRow) := goodIn_app (goodIn_of _ (by decide +kernel)) ggX5_orders_X5_copyRow
set_option maxRecDepth 20000 in
theorem ggX5_orders_X5_collect : GoodIn wsX5_orders wsX5_collect := goodIn_r _ [19, 3, 20, 4, 5, 1, 13, 14, 8, 15, 57, 58, 59, 60, 61, 62, 63, 64, 65, 66, 67, 68, 69, 70, 71, 72, 73, 74] (by decide +kernel) (by decide +kernel)
set_option maxRecDepth 20000 in
theorem gX5_orders_X5_collect : GoodIn wsX5_orders (wsV RX5 155 RX5 yX5_collect wsX5_collect) := goodIn_app (goodIn_of _ (by decide +kernel)) ggX5_orders_X5_collect
set_option maxRecDepth 20000 in
theorem ggX5_orders_X5_follow : GoodIn wsX5_orders wsX5_follow := goodIn_r _ [24, 4, 1, 5, 25, 26, 27, 8, 28, 20, 13, 14, 15, 29, 30, 31, 32, 33, 34, 35, 36, 37, 38, 39, 40, 41, 42, 43, 44, 45, 46, 47, 48, 49, 50, 51, 52, 16, 17, 18, 19, 3, 57, 58, 59, 60, 61, 62, 63, 64, 65, 66, 67, 68, 69, 70, 71, 72, 73, 74] (by decide +kernel) (by decide +kernel)
set_option maxRecDepth 20000 in
theorem gX5_orders_X5_follow : GoodIn wsX5_orders (wsV RX5 159 RX5 yX5_follow wsX5_follow) := goodIn_app (goodIn_of _ (by decide +kernel)) ggX5_orders_X5_follow
set_option maxRecDepth 20000 in
theorem ggX5_orders_X5_countFound : GoodIn wsX5_orders wsX5_countFound := goodIn_r _ [56, 3, 1, 4, 5, 25, 26, 27, 8, 28, 20, 13, 14, 15, 29, 30, 31, 32, 57, 58, 59, 60, 61, 62, 63, 64, 65, 66, 67, 68, 69, 70, 71, 72, 73, 74] (by decide +kernel) (by decide +kernel)
set_option maxRecDepth 20000 in
theorem gX5_orders_X5_countFound : GoodIn wsX5_orders (wsV RX5 162 RX5 yX5_countFound wsX5_countFound) := goodIn_app (goodIn_of _ (by decide +kernel)) ggX5_orders_X5_countFound
theorem dX5_orders_0 : decode cX5_orders 0 = .ok (.iload_n 1, 1) := by decide +kernel
theorem dX5_orders_1 : decode cX5_orders 1 = .ok (.invokestatic 100, 3) := by decide +kernel
theorem dX5_orders_4 : decode cX5_orders 4 = .ok (.ifCond .eq 10, 3) := by decide +kernel
theorem dX5_orders_7 : decode cX5_orders 7 = .ok (.iload_n 2, 1) := by decide +kernel
theorem dX5_orders_8 : decode cX5_orders 8 = .ok (.invokestatic 100, 3) := by decide +kernel
theorem dX5_orders_11 : decode cX5_orders 11 = .ok (.ifCond .ne 5, 3) := by decide +kernel
theorem dX5_orders_14 : decode cX5_orders 14 = .ok (.iconst (-1), 1) := by decide +kernel
theorem dX5_orders_15 : decode cX5_orders 15 = .ok (.ireturn, 1) := by decide +kernel
theorem dX5_orders_16 : decode cX5_orders 16 = .ok (.iload_n 3, 1) := by decide +kernel
theorem dX5_orders_17 : decode cX5_orders 17 = .ok (.iconst 0, 1) := by decide +kernel
theorem dX5_orders_18 : decode cX5_orders 18 = .ok (.iconst 2, 1) := by decide +kernel
theorem dX5_orders_19 : decode cX5_orders 19 = .ok (.invokestatic 47, 3) := by decide +kernel
theorem dX5_orders_22 : decode cX5_orders 22 = .ok (.ifCond .eq 8, 3) := by decide +kernel
theorem dX5_orders_25 : decode cX5_orders 25 = .ok (.iload_n 1, 1) := by decide +kernel
theorem dX5_orders_26 : decode cX5_orders 26 = .ok (.iload_n 2, 1) := by decide +kernel
theorem dX5_orders_27 : decode cX5_orders 27 = .ok (.if_icmp .ne 6, 3) := by decide +kernel
theorem dX5_orders_30 : decode cX5_orders 30 = .ok (.bipush (-2), 2) := by decide +kernel
theorem dX5_orders_32 : decode cX5_orders 32 = .ok (.ireturn, 1) := by decide +kernel
theorem dX5_orders_33 : decode cX5_orders 33 = .ok (.aload_n 0, 1) := by decide +kernel
theorem dX5_orders_34 : decode cX5_orders 34 = .ok (.getfield 7, 3) := by decide +kernel
theorem dX5_orders_37 : decode cX5_orders 37 = .ok (.iconst 0, 1) := by decide +kernel
theorem dX5_orders_38 : decode cX5_orders 38 = .ok (.aload_n 0, 1) := by decide +kernel
theorem dX5_orders_39 : decode cX5_orders 39 = .ok (.getfield 13, 3) := by decide +kernel
theorem dX5_orders_42 : decode cX5_orders 42 = .ok (.iconst 0, 1) := by decide +kernel
theorem dX5_orders_43 : decode cX5_orders 43 = .ok (.bipush 86, 2) := by decide +kernel
theorem dX5_orders_45 : decode cX5_orders 45 = .ok (.invokestatic 55, 3) := by decide +kernel
theorem dX5_orders_48 : decode cX5_orders 48 = .ok (.aload_n 0, 1) := by decide +kernel
theorem dX5_orders_49 : decode cX5_orders 49 = .ok (.iconst 0, 1) := by decide +kernel
theorem dX5_orders_50 : decode cX5_orders 50 = .ok (.putfield 143, 3) := by decide +kernel
theorem dX5_orders_53 : decode cX5_orders 53 = .ok (.aload_n 0, 1) := by decide +kernel
theorem dX5_orders_54 : decode cX5_orders 54 = .ok (.iconst 0, 1) := by decide +kernel
theorem dX5_orders_55 : decode cX5_orders 55 = .ok (.putfield 146, 3) := by decide +kernel
theorem dX5_orders_58 : decode cX5_orders 58 = .ok (.aload_n 0, 1) := by decide +kernel
theorem dX5_orders_59 : decode cX5_orders 59 = .ok (.iconst 0, 1) := by decide +kernel
theorem dX5_orders_60 : decode cX5_orders 60 = .ok (.putfield 149, 3) := by decide +kernel
theorem dX5_orders_63 : decode cX5_orders 63 = .ok (.aload_n 0, 1) := by decide +kernel
theorem dX5_orders_64 : decode cX5_orders 64 = .ok (.invokevirtual 155, 3) := by decide +kernel
theorem dX5_orders_67 : decode cX5_orders 67 = .ok (.istore 4, 2) := by decide +kernel
theorem dX5_orders_69 : decode cX5_orders 69 = .ok (.iconst 0, 1) := by decide +kernel
theorem dX5_orders_70 : decode cX5_orders 70 = .ok (.istore 5, 2) := by decide +kernel
theorem dX5_orders_72 : decode cX5_orders 72 = .ok (.iload 5, 2) := by decide +kernel
theorem dX5_orders_74 : decode cX5_orders 74 = .ok (.aload_n 0, 1) := by decide +kernel
theorem dX5_orders_75 : decode cX5_orders 75 = .ok (.getfield 143, 3) := by decide +kernel
theorem dX5_orders_78 : decode cX5_orders 78 = .ok (.if_icmp .ge 24, 3) := by decide +kernel
theorem dX5_orders_81 : decode cX5_orders 81 = .ok (.iload 4, 2) := by decide +kernel
theorem dX5_orders_83 : decode cX5_orders 83 = .ok (.ifCond .eq 19, 3) := by decide +kernel
theorem dX5_orders_86 : decode cX5_orders 86 = .ok (.aload_n 0, 1) := by decide +kernel
theorem dX5_orders_87 : decode cX5_orders 87 = .ok (.iload 5, 2) := by decide +kernel
theorem dX5_orders_89 : decode cX5_orders 89 = .ok (.iload_n 1, 1) := by decide +kernel
theorem dX5_orders_90 : decode cX5_orders 90 = .ok (.iload_n 2, 1) := by decide +kernel
theorem dX5_orders_91 : decode cX5_orders 91 = .ok (.invokevirtual 159, 3) := by decide +kernel
theorem dX5_orders_94 : decode cX5_orders 94 = .ok (.istore 4, 2) := by decide +kernel
theorem dX5_orders_96 : decode cX5_orders 96 = .ok (.iinc 5 1, 3) := by decide +kernel
theorem dX5_orders_99 : decode cX5_orders 99 = .ok (.goto (-27), 3) := by decide +kernel
theorem dX5_orders_102 : decode cX5_orders 102 = .ok (.iload 4, 2) := by decide +kernel
theorem dX5_orders_104 : decode cX5_orders 104 = .ok (.ifCond .ne 8, 3) := by decide +kernel
theorem dX5_orders_107 : decode cX5_orders 107 = .ok (.bipush (-5), 2) := by decide +kernel
theorem dX5_orders_109 : decode cX5_orders 109 = .ok (.goto 30, 3) := by decide +kernel
theorem dX5_orders_112 : decode cX5_orders 112 = .ok (.iload_n 3, 1) := by decide +kernel
theorem dX5_orders_113 : decode cX5_orders 113 = .ok (.ifCond .ne 10, 3) := by decide +kernel
theorem dX5_orders_116 : decode cX5_orders 116 = .ok (.aload_n 0, 1) := by decide +kernel
theorem dX5_orders_117 : decode cX5_orders 117 = .ok (.getfield 143, 3) := by decide +kernel
theorem dX5_orders_120 : decode cX5_orders 120 = .ok (.goto 19, 3) := by decide +kernel
theorem dX5_orders_123 : decode cX5_orders 123 = .ok (.aload_n 0, 1) := by decide +kernel
theorem dX5_orders_124 : decode cX5_orders 124 = .ok (.iload_n 1, 1) := by decide +kernel
theorem dX5_orders_125 : decode cX5_orders 125 = .ok (.iload_n 2, 1) := by decide +kernel
theorem dX5_orders_126 : decode cX5_orders 126 = .ok (.iload_n 3, 1) := by decide +kernel
theorem dX5_orders_127 : decode cX5_orders 127 = .ok (.iconst 1, 1) := by decide +kernel
theorem dX5_orders_128 : decode cX5_orders 128 = .ok (.if_icmp .ne 7, 3) := by decide +kernel
theorem dX5_orders_131 : decode cX5_orders 131 = .ok (.iconst 1, 1) := by decide +kernel
theorem dX5_orders_132 : decode cX5_orders 132 = .ok (.goto 4, 3) := by decide +kernel
theorem dX5_orders_135 : decode cX5_orders 135 = .ok (.iconst 0, 1) := by decide +kernel
theorem dX5_orders_136 : decode cX5_orders 136 = .ok (.invokevirtual 162, 3) := by decide +kernel
theorem dX5_orders_139 : decode cX5_orders 139 = .ok (.istore 5, 2) := by decide +kernel
theorem dX5_orders_141 : decode cX5_orders 141 = .ok (.aload_n 0, 1) := by decide +kernel
theorem dX5_orders_142 : decode cX5_orders 142 = .ok (.getfield 13, 3) := by decide +kernel
theorem dX5_orders_145 : decode cX5_orders 145 = .ok (.iconst 0, 1) := by decide +kernel
theorem dX5_orders_146 : decode cX5_orders 146 = .ok (.aload_n 0, 1) := by decide +kernel
theorem dX5_orders_147 : decode cX5_orders 147 = .ok (.getfield 7, 3) := by decide +kernel
theorem dX5_orders_150 : decode cX5_orders 150 = .ok (.iconst 0, 1) := by decide +kernel
theorem dX5_orders_151 : decode cX5_orders 151 = .ok (.bipush 86, 2) := by decide +kernel
theorem dX5_orders_153 : decode cX5_orders 153 = .ok (.invokestatic 55, 3) := by decide +kernel
theorem dX5_orders_156 : decode cX5_orders 156 = .ok (.iload 5, 2) := by decide +kernel
theorem dX5_orders_158 : decode cX5_orders 158 = .ok (.ireturn, 1) := by decide +kernel
theorem dJ6_bitCount_0f7a4_0 : decode cJ6_bitCount_0f7a4 0 = .ok (.iload_n 0, 1) := by decide +kernel
theorem dJ6_bitCount_0f7a4_1 : decode cJ6_bitCount_0f7a4 1 = .ok (.iload_n 0, 1) := by decide +kernel
theorem dJ6_bitCount_0f7a4_2 : decode cJ6_bitCount_0f7a4 2 = .ok (.iconst 1, 1) := by decide +kernel
theorem dJ6_bitCount_0f7a4_3 : decode cJ6_bitCount_0f7a4 3 = .ok (.iushr, 1) := by decide +kernel
theorem dJ6_bitCount_0f7a4_4 : decode cJ6_bitCount_0f7a4 4 = .ok (.ldc_w 265, 3) := by decide +kernel
theorem dJ6_bitCount_0f7a4_7 : decode cJ6_bitCount_0f7a4 7 = .ok (.iand, 1) := by decide +kernel
theorem dJ6_bitCount_0f7a4_8 : decode cJ6_bitCount_0f7a4 8 = .ok (.isub, 1) := by decide +kernel
theorem dJ6_bitCount_0f7a4_9 : decode cJ6_bitCount_0f7a4 9 = .ok (.istore_n 0, 1) := by decide +kernel
theorem dJ6_bitCount_0f7a4_10 : decode cJ6_bitCount_0f7a4 10 = .ok (.iload_n 0, 1) := by decide +kernel
theorem dJ6_bitCount_0f7a4_11 : decode cJ6_bitCount_0f7a4 11 = .ok (.ldc_w 266, 3) := by decide +kernel
theorem dJ6_bitCount_0f7a4_14 : decode cJ6_bitCount_0f7a4 14 = .ok (.iand, 1) := by decide +kernel
theorem dJ6_bitCount_0f7a4_15 : decode cJ6_bitCount_0f7a4 15 = .ok (.iload_n 0, 1) := by decide +kernel
theorem dJ6_bitCount_0f7a4_16 : decode cJ6_bitCount_0f7a4 16 = .ok (.iconst 2, 1) := by decide +kernel
theorem dJ6_bitCount_0f7a4_17 : decode cJ6_bitCount_0f7a4 17 = .ok (.iushr, 1) := by decide +kernel
theorem dJ6_bitCount_0f7a4_18 : decode cJ6_bitCount_0f7a4 18 = .ok (.ldc_w 266, 3) := by decide +kernel
theorem dJ6_bitCount_0f7a4_21 : decode cJ6_bitCount_0f7a4 21 = .ok (.iand, 1) := by decide +kernel
theorem dJ6_bitCount_0f7a4_22 : decode cJ6_bitCount_0f7a4 22 = .ok (.iadd, 1) := by decide +kernel
theorem dJ6_bitCount_0f7a4_23 : decode cJ6_bitCount_0f7a4 23 = .ok (.istore_n 0, 1) := by decide +kernel
theorem dJ6_bitCount_0f7a4_24 : decode cJ6_bitCount_0f7a4 24 = .ok (.iload_n 0, 1) := by decide +kernel
theorem dJ6_bitCount_0f7a4_25 : decode cJ6_bitCount_0f7a4 25 = .ok (.iload_n 0, 1) := by decide +kernel
theorem dJ6_bitCount_0f7a4_26 : decode cJ6_bitCount_0f7a4 26 = .ok (.iconst 4, 1) := by decide +kernel
theorem dJ6_bitCount_0f7a4_27 : decode cJ6_bitCount_0f7a4 27 = .ok (.iushr, 1) := by decide +kernel
theorem dJ6_bitCount_0f7a4_28 : decode cJ6_bitCount_0f7a4 28 = .ok (.iadd, 1) := by decide +kernel
theorem dJ6_bitCount_0f7a4_29 : decode cJ6_bitCount_0f7a4 29 = .ok (.ldc_w 267, 3) := by decide +kernel
theorem dJ6_bitCount_0f7a4_32 : decode cJ6_bitCount_0f7a4 32 = .ok (.iand, 1) := by decide +kernel
theorem dJ6_bitCount_0f7a4_33 : decode cJ6_bitCount_0f7a4 33 = .ok (.istore_n 0, 1) := by decide +kernel
theorem dJ6_bitCount_0f7a4_34 : decode cJ6_bitCount_0f7a4 34 = .ok (.iload_n 0, 1) := by decide +kernel
theorem dJ6_bitCount_0f7a4_35 : decode cJ6_bitCount_0f7a4 35 = .ok (.iload_n 0, 1) := by decide +kernel
theorem dJ6_bitCount_0f7a4_36 : decode cJ6_bitCount_0f7a4 36 = .ok (.bipush 8, 2) := by decide +kernel
theorem dJ6_bitCount_0f7a4_38 : decode cJ6_bitCount_0f7a4 38 = .ok (.iushr, 1) := by decide +kernel
theorem dJ6_bitCount_0f7a4_39 : decode cJ6_bitCount_0f7a4 39 = .ok (.iadd, 1) := by decide +kernel
theorem dJ6_bitCount_0f7a4_40 : decode cJ6_bitCount_0f7a4 40 = .ok (.istore_n 0, 1) := by decide +kernel
theorem dJ6_bitCount_0f7a4_41 : decode cJ6_bitCount_0f7a4 41 = .ok (.iload_n 0, 1) := by decide +kernel
theorem dJ6_bitCount_0f7a4_42 : decode cJ6_bitCount_0f7a4 42 = .ok (.iload_n 0, 1) := by decide +kernel
theorem dJ6_bitCount_0f7a4_43 : decode cJ6_bitCount_0f7a4 43 = .ok (.bipush 16, 2) := by decide +kernel
theorem dJ6_bitCount_0f7a4_45 : decode cJ6_bitCount_0f7a4 45 = .ok (.iushr, 1) := by decide +kernel
theorem dJ6_bitCount_0f7a4_46 : decode cJ6_bitCount_0f7a4 46 = .ok (.iadd, 1) := by decide +kernel
theorem dJ6_bitCount_0f7a4_47 : decode cJ6_bitCount_0f7a4 47 = .ok (.istore_n 0, 1) := by decide +kernel
theorem dJ6_bitCount_0f7a4_48 : decode cJ6_bitCount_0f7a4 48 = .ok (.iload_n 0, 1) := by decide +kernel
theorem dJ6_bitCount_0f7a4_49 : decode cJ6_bitCount_0f7a4 49 = .ok (.bipush 63, 2) := by decide +kernel
theorem dJ6_bitCount_0f7a4_51 : decode cJ6_bitCount_0f7a4 51 = .ok (.iand, 1) := by decide +kernel
theorem dJ6_bitCount_0f7a4_52 : decode cJ6_bitCount_0f7a4 52 = .ok (.ireturn, 1) := by decide +kernel
abbrev vwCl : List vw_C := [(RX0, TX0, 4), (RX1, TX1, 1), (RX2, TX2, 5), (RX3, TX3, 5), (RX4, TX4, 10), (RX5, TX5, 18)]
