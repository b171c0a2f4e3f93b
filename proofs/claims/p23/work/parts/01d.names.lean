theorem dX4_card_27 : decode cX4_card 27 = .ok (.getfield 12, 3) := by decide +kernel
theorem dX4_card_30 : decode cX4_card 30 = .ok (.getfield 62, 3) := by decide +kernel
theorem dX4_card_33 : decode cX4_card 33 = .ok (.iload_n 1, 1) := by decide +kernel
theorem dX4_card_34 : decode cX4_card 34 = .ok (.invokevirtual 144, 3) := by decide +kernel
theorem dX4_card_37 : decode cX4_card 37 = .ok (.ireturn, 1) := by decide +kernel
set_option maxRecDepth 20000 in
theorem ggX4_total_X1_kind : GoodIn wsX4_total wsX1_kind := goodIn_r _ [8, 9, 66] (by decide +kernel) (by decide +kernel)
set_option maxRecDepth 20000 in
theorem gX4_total_X1_kind : GoodIn wsX4_total (wsV RX4 66 RX1 yX1_kind wsX1_kind) := goodIn_app (goodIn_of _ (by decide +kernel)) ggX4_total_X1_kind
set_option maxRecDepth 20000 in
theorem ggX4_total_X1_whoIsInside : GoodIn wsX4_total wsX1_whoIsInside := goodIn_r _ [13, 14, 15, 16, 7, 17, 9, 66] (by decide +kernel) (by decide +kernel)
set_option maxRecDepth 20000 in
theorem gX4_total_X1_whoIsInside : GoodIn wsX4_total (wsV RX4 147 RX1 yX1_whoIsInside wsX1_whoIsInside) := goodIn_app (goodIn_of _ (by decide +kernel)) ggX4_total_X1_whoIsInside
set_option maxRecDepth 20000 in
theorem ggX4_total_X1_tail : GoodIn wsX4_total wsX1_tail := goodIn_r _ [21, 9, 66] (by decide +kernel) (by decide +kernel)
set_option maxRecDepth 20000 in
theorem gX4_total_X1_tail : GoodIn wsX4_total (wsV RX4 150 RX1 yX1_tail wsX1_tail) := goodIn_app (goodIn_of _ (by decide +kernel)) ggX4_total_X1_tail
set_option maxRecDepth 20000 in
theorem ggX4_total_X3_present : GoodIn wsX4_total wsX3_present := goodIn_r _ [26, 27, 28, 29, 30, 7, 31, 14, 15, 16, 17, 9, 61, 62, 63, 64, 65, 66] (by decide +kernel) (by decide +kernel)
set_option maxRecDepth 20000 in
theorem gX4_total_X3_present : GoodIn wsX4_total (wsV RX4 55 RX3 yX3_present wsX3_present) := goodIn_app (goodIn_of _ (by decide +kernel)) ggX4_total_X3_present
set_option maxRecDepth 20000 in
theorem ggX4_total_X1_countAt : GoodIn wsX4_total wsX1_countAt := goodIn_r _ [31, 14, 15, 16, 7, 17, 9, 66] (by decide +kernel) (by decide +kernel)
set_option maxRecDepth 20000 in
theorem gX4_total_X1_countAt : GoodIn wsX4_total (wsV RX4 153 RX1 yX1_countAt wsX1_countAt) := goodIn_app (goodIn_of _ (by decide +kernel)) ggX4_total_X1_countAt
set_option maxRecDepth 20000 in
theorem ggX4_total_X3_sum : GoodIn wsX4_total wsX3_sum := goodIn_r _ [36, 37, 61, 62, 63, 64, 65] (by decide +kernel) (by decide +kernel)
set_option maxRecDepth 20000 in
theorem gX4_total_X3_sum : GoodIn wsX4_total (wsV RX4 92 RX3 yX3_sum wsX3_sum) := goodIn_app (goodIn_of _ (by decide +kernel)) ggX4_total_X3_sum
set_option maxRecDepth 20000 in
theorem ggX4_total_X1_given : GoodIn wsX4_total wsX1_given := goodIn_r _ [41, 9, 42, 5, 6, 7, 8, 66] (by decide +kernel) (by decide +kernel)
set_option maxRecDepth 20000 in
theorem gX4_total_X1_given : GoodIn wsX4_total (wsV RX4 156 RX1 yX1_given wsX1_given) := goodIn_app (goodIn_of _ (by decide +kernel)) ggX4_total_X1_given
set_option maxRecDepth 20000 in
theorem ggX4_total_X1_served : GoodIn wsX4_total wsX1_served := goodIn_r _ [46, 9, 42, 5, 6, 7, 8, 66] (by decide +kernel) (by decide +kernel)
set_option maxRecDepth 20000 in
theorem gX4_total_X1_served : GoodIn wsX4_total (wsV RX4 159 RX1 yX1_served wsX1_served) := goodIn_app (goodIn_of _ (by decide +kernel)) ggX4_total_X1_served
set_option maxRecDepth 20000 in
theorem ggX4_total_X1_grabFlag : GoodIn wsX4_total wsX1_grabFlag := goodIn_r _ [50, 9, 42, 5, 6, 7, 8, 66] (by decide +kernel) (by decide +kernel)
set_option maxRecDepth 20000 in
theorem gX4_total_X1_grabFlag : GoodIn wsX4_total (wsV RX4 162 RX1 yX1_grabFlag wsX1_grabFlag) := goodIn_app (goodIn_of _ (by decide +kernel)) ggX4_total_X1_grabFlag
theorem dX4_total_0 : decode cX4_total 0 = .ok (.iload_n 1, 1) := by decide +kernel
theorem dX4_total_1 : decode cX4_total 1 = .ok (.tableswitch 218 0 14 #[75, 86, 97, 108, 116, 128, 137, 147, 157, 167, 178, 189, 200, 208, 213], 75) := by decide +kernel
theorem dX4_total_76 : decode cX4_total 76 = .ok (.aload_n 0, 1) := by decide +kernel
theorem dX4_total_77 : decode cX4_total 77 = .ok (.getfield 12, 3) := by decide +kernel
theorem dX4_total_80 : decode cX4_total 80 = .ok (.getfield 62, 3) := by decide +kernel
theorem dX4_total_83 : decode cX4_total 83 = .ok (.invokevirtual 66, 3) := by decide +kernel
theorem dX4_total_86 : decode cX4_total 86 = .ok (.ireturn, 1) := by decide +kernel
theorem dX4_total_87 : decode cX4_total 87 = .ok (.aload_n 0, 1) := by decide +kernel
theorem dX4_total_88 : decode cX4_total 88 = .ok (.getfield 12, 3) := by decide +kernel
theorem dX4_total_91 : decode cX4_total 91 = .ok (.getfield 62, 3) := by decide +kernel
theorem dX4_total_94 : decode cX4_total 94 = .ok (.invokevirtual 147, 3) := by decide +kernel
theorem dX4_total_97 : decode cX4_total 97 = .ok (.ireturn, 1) := by decide +kernel
theorem dX4_total_98 : decode cX4_total 98 = .ok (.aload_n 0, 1) := by decide +kernel
theorem dX4_total_99 : decode cX4_total 99 = .ok (.getfield 12, 3) := by decide +kernel
theorem dX4_total_102 : decode cX4_total 102 = .ok (.getfield 62, 3) := by decide +kernel
theorem dX4_total_105 : decode cX4_total 105 = .ok (.invokevirtual 150, 3) := by decide +kernel
theorem dX4_total_108 : decode cX4_total 108 = .ok (.ireturn, 1) := by decide +kernel
theorem dX4_total_109 : decode cX4_total 109 = .ok (.aload_n 0, 1) := by decide +kernel
theorem dX4_total_110 : decode cX4_total 110 = .ok (.getfield 12, 3) := by decide +kernel
theorem dX4_total_113 : decode cX4_total 113 = .ok (.invokevirtual 55, 3) := by decide +kernel
theorem dX4_total_116 : decode cX4_total 116 = .ok (.ireturn, 1) := by decide +kernel
theorem dX4_total_117 : decode cX4_total 117 = .ok (.aload_n 0, 1) := by decide +kernel
theorem dX4_total_118 : decode cX4_total 118 = .ok (.getfield 12, 3) := by decide +kernel
theorem dX4_total_121 : decode cX4_total 121 = .ok (.getfield 62, 3) := by decide +kernel
theorem dX4_total_124 : decode cX4_total 124 = .ok (.iconst 2, 1) := by decide +kernel
theorem dX4_total_125 : decode cX4_total 125 = .ok (.invokevirtual 153, 3) := by decide +kernel
theorem dX4_total_128 : decode cX4_total 128 = .ok (.ireturn, 1) := by decide +kernel
theorem dX4_total_129 : decode cX4_total 129 = .ok (.aload_n 0, 1) := by decide +kernel
theorem dX4_total_130 : decode cX4_total 130 = .ok (.getfield 12, 3) := by decide +kernel
theorem dX4_total_133 : decode cX4_total 133 = .ok (.iconst 0, 1) := by decide +kernel
theorem dX4_total_134 : decode cX4_total 134 = .ok (.invokevirtual 92, 3) := by decide +kernel
theorem dX4_total_137 : decode cX4_total 137 = .ok (.ireturn, 1) := by decide +kernel
theorem dX4_total_138 : decode cX4_total 138 = .ok (.aload_n 0, 1) := by decide +kernel
theorem dX4_total_139 : decode cX4_total 139 = .ok (.getfield 12, 3) := by decide +kernel
theorem dX4_total_142 : decode cX4_total 142 = .ok (.bipush 6, 2) := by decide +kernel
theorem dX4_total_144 : decode cX4_total 144 = .ok (.invokevirtual 92, 3) := by decide +kernel
theorem dX4_total_147 : decode cX4_total 147 = .ok (.ireturn, 1) := by decide +kernel
theorem dX4_total_148 : decode cX4_total 148 = .ok (.aload_n 0, 1) := by decide +kernel
theorem dX4_total_149 : decode cX4_total 149 = .ok (.getfield 12, 3) := by decide +kernel
theorem dX4_total_152 : decode cX4_total 152 = .ok (.bipush 12, 2) := by decide +kernel
theorem dX4_total_154 : decode cX4_total 154 = .ok (.invokevirtual 92, 3) := by decide +kernel
theorem dX4_total_157 : decode cX4_total 157 = .ok (.ireturn, 1) := by decide +kernel
theorem dX4_total_158 : decode cX4_total 158 = .ok (.aload_n 0, 1) := by decide +kernel
theorem dX4_total_159 : decode cX4_total 159 = .ok (.getfield 12, 3) := by decide +kernel
theorem dX4_total_162 : decode cX4_total 162 = .ok (.bipush 18, 2) := by decide +kernel
theorem dX4_total_164 : decode cX4_total 164 = .ok (.invokevirtual 92, 3) := by decide +kernel
theorem dX4_total_167 : decode cX4_total 167 = .ok (.ireturn, 1) := by decide +kernel
theorem dX4_total_168 : decode cX4_total 168 = .ok (.aload_n 0, 1) := by decide +kernel
theorem dX4_total_169 : decode cX4_total 169 = .ok (.getfield 12, 3) := by decide +kernel
theorem dX4_total_172 : decode cX4_total 172 = .ok (.getfield 62, 3) := by decide +kernel
theorem dX4_total_175 : decode cX4_total 175 = .ok (.invokevirtual 156, 3) := by decide +kernel
theorem dX4_total_178 : decode cX4_total 178 = .ok (.ireturn, 1) := by decide +kernel
theorem dX4_total_179 : decode cX4_total 179 = .ok (.aload_n 0, 1) := by decide +kernel
theorem dX4_total_180 : decode cX4_total 180 = .ok (.getfield 12, 3) := by decide +kernel
theorem dX4_total_183 : decode cX4_total 183 = .ok (.getfield 62, 3) := by decide +kernel
theorem dX4_total_186 : decode cX4_total 186 = .ok (.invokevirtual 159, 3) := by decide +kernel
theorem dX4_total_189 : decode cX4_total 189 = .ok (.ireturn, 1) := by decide +kernel
theorem dX4_total_190 : decode cX4_total 190 = .ok (.aload_n 0, 1) := by decide +kernel
theorem dX4_total_191 : decode cX4_total 191 = .ok (.getfield 12, 3) := by decide +kernel
theorem dX4_total_194 : decode cX4_total 194 = .ok (.getfield 62, 3) := by decide +kernel
theorem dX4_total_197 : decode cX4_total 197 = .ok (.invokevirtual 162, 3) := by decide +kernel
theorem dX4_total_200 : decode cX4_total 200 = .ok (.ireturn, 1) := by decide +kernel
theorem dX4_total_201 : decode cX4_total 201 = .ok (.aload_n 0, 1) := by decide +kernel
theorem dX4_total_202 : decode cX4_total 202 = .ok (.getfield 12, 3) := by decide +kernel
theorem dX4_total_205 : decode cX4_total 205 = .ok (.getfield 98, 3) := by decide +kernel
theorem dX4_total_208 : decode cX4_total 208 = .ok (.ireturn, 1) := by decide +kernel
theorem dX4_total_209 : decode cX4_total 209 = .ok (.aload_n 0, 1) := by decide +kernel
theorem dX4_total_210 : decode cX4_total 210 = .ok (.getfield 30, 3) := by decide +kernel
theorem dX4_total_213 : decode cX4_total 213 = .ok (.ireturn, 1) := by decide +kernel
theorem dX4_total_214 : decode cX4_total 214 = .ok (.aload_n 0, 1) := by decide +kernel
theorem dX4_total_215 : decode cX4_total 215 = .ok (.getfield 38, 3) := by decide +kernel
theorem dX4_total_218 : decode cX4_total 218 = .ok (.ireturn, 1) := by decide +kernel
theorem dX4_total_219 : decode cX4_total 219 = .ok (.bipush (-2), 2) := by decide +kernel
theorem dX4_total_221 : decode cX4_total 221 = .ok (.ireturn, 1) := by decide +kernel
set_option maxRecDepth 20000 in
theorem ggX4_wouldLook_X4_isVisitor : GoodIn wsX4_wouldLook wsX4_isVisitor := goodIn_r _ [5] (by decide +kernel) (by decide +kernel)
set_option maxRecDepth 20000 in
theorem gX4_wouldLook_X4_isVisitor : GoodIn wsX4_wouldLook (va_wsS RX4 75 yX4_isVisitor wsX4_isVisitor) := goodIn_app (goodIn_of _ (by decide +kernel)) ggX4_wouldLook_X4_isVisitor
set_option maxRecDepth 20000 in
theorem ggX4_wouldLook_X1_waits : GoodIn wsX4_wouldLook wsX1_waits := goodIn_r _ [10, 11, 12, 13, 14, 9, 15, 16, 17, 18, 19, 20, 21, 22, 23, 24, 25, 26, 27, 28, 4, 29, 45] (by decide +kernel) (by decide +kernel)
set_option maxRecDepth 20000 in
theorem gX4_wouldLook_X1_waits : GoodIn wsX4_wouldLook (wsV RX4 86 RX1 yX1_waits wsX1_waits) := goodIn_app (goodIn_of _ (by decide +kernel)) ggX4_wouldLook_X1_waits
theorem dX4_wouldLook_0 : decode cX4_wouldLook 0 = .ok (.iload_n 1, 1) := by decide +kernel
theorem dX4_wouldLook_1 : decode cX4_wouldLook 1 = .ok (.invokestatic 75, 3) := by decide +kernel
theorem dX4_wouldLook_4 : decode cX4_wouldLook 4 = .ok (.ifCond .ne 5, 3) := by decide +kernel
theorem dX4_wouldLook_7 : decode cX4_wouldLook 7 = .ok (.iconst (-1), 1) := by decide +kernel
theorem dX4_wouldLook_8 : decode cX4_wouldLook 8 = .ok (.ireturn, 1) := by decide +kernel
theorem dX4_wouldLook_9 : decode cX4_wouldLook 9 = .ok (.aload_n 0, 1) := by decide +kernel
theorem dX4_wouldLook_10 : decode cX4_wouldLook 10 = .ok (.getfield 12, 3) := by decide +kernel
theorem dX4_wouldLook_13 : decode cX4_wouldLook 13 = .ok (.getfield 62, 3) := by decide +kernel
theorem dX4_wouldLook_16 : decode cX4_wouldLook 16 = .ok (.iload_n 1, 1) := by decide +kernel
theorem dX4_wouldLook_17 : decode cX4_wouldLook 17 = .ok (.invokevirtual 86, 3) := by decide +kernel
theorem dX4_wouldLook_20 : decode cX4_wouldLook 20 = .ok (.ifCond .eq 7, 3) := by decide +kernel
theorem dX4_wouldLook_23 : decode cX4_wouldLook 23 = .ok (.iconst 1, 1) := by decide +kernel
theorem dX4_wouldLook_24 : decode cX4_wouldLook 24 = .ok (.goto 4, 3) := by decide +kernel
theorem dX4_wouldLook_27 : decode cX4_wouldLook 27 = .ok (.iconst 0, 1) := by decide +kernel
theorem dX4_wouldLook_28 : decode cX4_wouldLook 28 = .ok (.ireturn, 1) := by decide +kernel
set_option maxRecDepth 20000 in
theorem ggX4_wouldTouch_X4_isVisitor : GoodIn wsX4_wouldTouch wsX4_isVisitor := goodIn_r _ [5] (by decide +kernel) (by decide +kernel)
set_option maxRecDepth 20000 in
theorem gX4_wouldTouch_X4_isVisitor : GoodIn wsX4_wouldTouch (va_wsS RX4 75 yX4_isVisitor wsX4_isVisitor) := goodIn_app (goodIn_of _ (by decide +kernel)) ggX4_wouldTouch_X4_isVisitor
set_option maxRecDepth 20000 in
theorem ggX4_wouldTouch_X1_touches : GoodIn wsX4_wouldTouch wsX1_touches := goodIn_r _ [10, 11, 12, 13, 14, 9, 15, 16, 17, 18, 19, 20, 36] (by decide +kernel) (by decide +kernel)
set_option maxRecDepth 20000 in
theorem gX4_wouldTouch_X1_touches : GoodIn wsX4_wouldTouch (wsV RX4 165 RX1 yX1_touches wsX1_touches) := goodIn_app (goodIn_of _ (by decide +kernel)) ggX4_wouldTouch_X1_touches
theorem dX4_wouldTouch_0 : decode cX4_wouldTouch 0 = .ok (.iload_n 1, 1) := by decide +kernel
theorem dX4_wouldTouch_1 : decode cX4_wouldTouch 1 = .ok (.invokestatic 75, 3) := by decide +kernel
theorem dX4_wouldTouch_4 : decode cX4_wouldTouch 4 = .ok (.ifCond .ne 5, 3) := by decide +kernel
theorem dX4_wouldTouch_7 : decode cX4_wouldTouch 7 = .ok (.iconst (-1), 1) := by decide +kernel
theorem dX4_wouldTouch_8 : decode cX4_wouldTouch 8 = .ok (.ireturn, 1) := by decide +kernel
theorem dX4_wouldTouch_9 : decode cX4_wouldTouch 9 = .ok (.aload_n 0, 1) := by decide +kernel
theorem dX4_wouldTouch_10 : decode cX4_wouldTouch 10 = .ok (.getfield 12, 3) := by decide +kernel
theorem dX4_wouldTouch_13 : decode cX4_wouldTouch 13 = .ok (.getfield 62, 3) := by decide +kernel
theorem dX4_wouldTouch_16 : decode cX4_wouldTouch 16 = .ok (.iload_n 1, 1) := by decide +kernel
theorem dX4_wouldTouch_17 : decode cX4_wouldTouch 17 = .ok (.invokevirtual 165, 3) := by decide +kernel
theorem dX4_wouldTouch_20 : decode cX4_wouldTouch 20 = .ok (.ireturn, 1) := by decide +kernel
set_option maxRecDepth 20000 in
theorem ggX4_stepsToFinish_X3_copyFrom : GoodIn wsX4_stepsToFinish wsX3_copyFrom := goodIn_r _ [7, 8, 9, 10, 11, 12, 13, 14, 15, 16, 17, 18, 19, 20, 21, 22, 23, 135, 136, 137, 138, 139, 140] (by decide +kernel) (by decide +kernel)
set_option maxRecDepth 20000 in
theorem gX4_stepsToFinish_X3_copyFrom : GoodIn wsX4_stepsToFinish (wsV RX4 114 RX3 yX3_copyFrom wsX3_copyFrom) := goodIn_app (goodIn_of _ (by decide +kernel)) ggX4_stepsToFinish_X3_copyFrom
set_option maxRecDepth 20000 in
theorem ggX4_stepsToFinish_X3_advanceAll : GoodIn wsX4_stepsToFinish wsX3_advanceAll := goodIn_r _ [27, 28, 8, 29, 30, 31, 6, 32, 33, 34, 35, 20, 36, 37, 38, 39, 40, 22, 41, 42, 43, 44, 45, 9, 46, 47, 48, 49, 50, 51, 52, 53, 54, 55, 56, 57, 58, 59, 60, 61, 62, 63, 64, 65, 66, 67, 68, 69, 70, 71, 72, 73, 74, 75, 76, 77, 78, 79, 80, 81, 82, 83, 84, 85, 86, 87, 88, 89, 90, 91, 92, 93, 94, 95, 96, 97, 98, 99, 100, 101, 102, 103, 104, 105, 106, 107, 108, 109, 110, 111, 112, 113, 114, 115, 116, 117, 118, 119, 120, 15, 14, 121, 122, 123, 124, 135, 136, 137, 138, 139, 140] (by decide +kernel) (by decide +kernel)
set_option maxRecDepth 20000 in
theorem gX4_stepsToFinish_X3_advanceAll : GoodIn wsX4_stepsToFinish (wsV RX4 111 RX3 yX3_advanceAll wsX3_advanceAll) := goodIn_app (goodIn_of _ (by decide +kernel)) ggX4_stepsToFinish_X3_advanceAll
theorem dX4_stepsToFinish_0 : decode cX4_stepsToFinish 0 = .ok (.aload_n 0, 1) := by decide +kernel
theorem dX4_stepsToFinish_1 : decode cX4_stepsToFinish 1 = .ok (.getfield 16, 3) := by decide +kernel
theorem dX4_stepsToFinish_4 : decode cX4_stepsToFinish 4 = .ok (.aload_n 0, 1) := by decide +kernel
theorem dX4_stepsToFinish_5 : decode cX4_stepsToFinish 5 = .ok (.getfield 12, 3) := by decide +kernel
theorem dX4_stepsToFinish_8 : decode cX4_stepsToFinish 8 = .ok (.invokevirtual 114, 3) := by decide +kernel
theorem dX4_stepsToFinish_11 : decode cX4_stepsToFinish 11 = .ok (.aload_n 0, 1) := by decide +kernel
theorem dX4_stepsToFinish_12 : decode cX4_stepsToFinish 12 = .ok (.getfield 16, 3) := by decide +kernel
theorem dX4_stepsToFinish_15 : decode cX4_stepsToFinish 15 = .ok (.invokevirtual 111, 3) := by decide +kernel
theorem dX4_stepsToFinish_18 : decode cX4_stepsToFinish 18 = .ok (.ireturn, 1) := by decide +kernel
set_option maxRecDepth 20000 in
theorem ggX4_orders_X4_isVisitor : GoodIn wsX4_orders wsX4_isVisitor := goodIn_r _ [6] (by decide +kernel) (by decide +kernel)
set_option maxRecDepth 20000 in
theorem gX4_orders_X4_isVisitor : GoodIn wsX4_orders (va_wsS RX4 75 yX4_isVisitor wsX4_isVisitor) := goodIn_app (goodIn_of _ (by decide +kernel)) ggX4_orders_X4_isVisitor
set_option maxRecDepth 20000 in
theorem ggX4_orders_X0_explore : GoodIn wsX4_orders wsX0_explore := goodIn_r _ [11, 12, 13, 14, 15, 16, 17, 18, 19, 20, 21, 22, 23, 24, 25, 26, 10, 27, 28, 29, 30, 31, 32, 33, 34, 35, 36, 37, 38, 39, 40, 41, 42, 43, 44, 45, 46, 47, 48, 49, 50, 51, 52, 53, 54, 55, 56, 57, 58, 59, 60, 61, 62, 63, 64, 65, 66, 67, 68, 69, 70, 71, 5, 72, 73, 74, 75, 76, 77, 78, 79, 80, 81, 82, 83, 84, 4, 6, 85, 86, 87, 88, 89, 90, 91, 92, 93, 94, 95, 96, 97, 98, 99, 100, 101, 102, 103, 104, 105, 106, 107, 108, 109, 110, 111, 112, 113, 114, 115, 116, 117, 150, 151, 152, 153, 154] (by decide +kernel) (by decide +kernel)
set_option maxRecDepth 20000 in
theorem gX4_orders_X0_explore : GoodIn wsX4_orders (wsV RX4 168 RX0 yX0_explore wsX0_explore) := goodIn_app (goodIn_of _ (by decide +kernel)) ggX4_orders_X0_explore
set_option maxRecDepth 20000 in
theorem ggX4_orders_X0_found : GoodIn wsX4_orders wsX0_found := goodIn_r _ [121, 12, 150, 151, 152, 153] (by decide +kernel) (by decide +kernel)
set_option maxRecDepth 20000 in
theorem gX4_orders_X0_found : GoodIn wsX4_orders (wsV RX4 172 RX0 yX0_found wsX0_found) := goodIn_app (goodIn_of _ (by decide +kernel)) ggX4_orders_X0_found
set_option maxRecDepth 20000 in
theorem ggX4_orders_X0_countBothInside : GoodIn wsX4_orders wsX0_countBothInside := goodIn_r _ [125, 12, 28, 109, 56, 57, 17, 58, 19, 150, 151, 152, 153, 154] (by decide +kernel) (by decide +kernel)
set_option maxRecDepth 20000 in
theorem gX4_orders_X0_countBothInside : GoodIn wsX4_orders (wsV RX4 175 RX0 yX0_countBothInside wsX0_countBothInside) := goodIn_app (goodIn_of _ (by decide +kernel)) ggX4_orders_X0_countBothInside
set_option maxRecDepth 20000 in
theorem ggX4_orders_X0_countStuck : GoodIn wsX4_orders wsX0_countStuck := goodIn_r _ [129, 12, 130, 131, 132, 10, 133, 28, 31, 134, 52, 53, 17, 54, 19, 55, 56, 57, 58, 59, 60, 61, 62, 63, 64, 65, 66, 67, 68, 69, 70, 71, 5, 72, 150, 151, 152, 153, 154] (by decide +kernel) (by decide +kernel)
set_option maxRecDepth 20000 in
theorem gX4_orders_X0_countStuck : GoodIn wsX4_orders (wsV RX4 178 RX0 yX0_countStuck wsX0_countStuck) := goodIn_app (goodIn_of _ (by decide +kernel)) ggX4_orders_X0_countStuck
theorem dX4_orders_0 : decode cX4_orders 0 = .ok (.iload_n 1, 1) := by decide +kernel
theorem dX4_orders_1 : decode cX4_orders 1 = .ok (.invokestatic 75, 3) := by decide +kernel
theorem dX4_orders_4 : decode cX4_orders 4 = .ok (.ifCond .eq 10, 3) := by decide +kernel
theorem dX4_orders_7 : decode cX4_orders 7 = .ok (.iload_n 2, 1) := by decide +kernel
theorem dX4_orders_8 : decode cX4_orders 8 = .ok (.invokestatic 75, 3) := by decide +kernel
theorem dX4_orders_11 : decode cX4_orders 11 = .ok (.ifCond .ne 5, 3) := by decide +kernel
theorem dX4_orders_14 : decode cX4_orders 14 = .ok (.iconst (-1), 1) := by decide +kernel
theorem dX4_orders_15 : decode cX4_orders 15 = .ok (.ireturn, 1) := by decide +kernel
theorem dX4_orders_16 : decode cX4_orders 16 = .ok (.iload_n 3, 1) := by decide +kernel
theorem dX4_orders_17 : decode cX4_orders 17 = .ok (.ifCond .lt 13, 3) := by decide +kernel
theorem dX4_orders_20 : decode cX4_orders 20 = .ok (.iload_n 3, 1) := by decide +kernel
theorem dX4_orders_21 : decode cX4_orders 21 = .ok (.iconst 2, 1) := by decide +kernel
theorem dX4_orders_22 : decode cX4_orders 22 = .ok (.if_icmp .gt 8, 3) := by decide +kernel
theorem dX4_orders_25 : decode cX4_orders 25 = .ok (.iload_n 1, 1) := by decide +kernel
theorem dX4_orders_26 : decode cX4_orders 26 = .ok (.iload_n 2, 1) := by decide +kernel
theorem dX4_orders_27 : decode cX4_orders 27 = .ok (.if_icmp .ne 6, 3) := by decide +kernel
theorem dX4_orders_30 : decode cX4_orders 30 = .ok (.bipush (-2), 2) := by decide +kernel
theorem dX4_orders_32 : decode cX4_orders 32 = .ok (.ireturn, 1) := by decide +kernel
theorem dX4_orders_33 : decode cX4_orders 33 = .ok (.aload_n 0, 1) := by decide +kernel
theorem dX4_orders_34 : decode cX4_orders 34 = .ok (.getfield 51, 3) := by decide +kernel
theorem dX4_orders_37 : decode cX4_orders 37 = .ok (.aload_n 0, 1) := by decide +kernel
theorem dX4_orders_38 : decode cX4_orders 38 = .ok (.getfield 12, 3) := by decide +kernel
theorem dX4_orders_41 : decode cX4_orders 41 = .ok (.getfield 62, 3) := by decide +kernel
theorem dX4_orders_44 : decode cX4_orders 44 = .ok (.iload_n 1, 1) := by decide +kernel
theorem dX4_orders_45 : decode cX4_orders 45 = .ok (.iload_n 2, 1) := by decide +kernel
theorem dX4_orders_46 : decode cX4_orders 46 = .ok (.invokevirtual 168, 3) := by decide +kernel
theorem dX4_orders_49 : decode cX4_orders 49 = .ok (.ifCond .ne 6, 3) := by decide +kernel
theorem dX4_orders_52 : decode cX4_orders 52 = .ok (.bipush (-5), 2) := by decide +kernel
theorem dX4_orders_54 : decode cX4_orders 54 = .ok (.ireturn, 1) := by decide +kernel
theorem dX4_orders_55 : decode cX4_orders 55 = .ok (.iload_n 3, 1) := by decide +kernel
theorem dX4_orders_56 : decode cX4_orders 56 = .ok (.lookupswitch 46 #[(0, 28), (1, 36)], 28) := by decide +kernel
theorem dX4_orders_84 : decode cX4_orders 84 = .ok (.aload_n 0, 1) := by decide +kernel
theorem dX4_orders_85 : decode cX4_orders 85 = .ok (.getfield 51, 3) := by decide +kernel
theorem dX4_orders_88 : decode cX4_orders 88 = .ok (.invokevirtual 172, 3) := by decide +kernel
theorem dX4_orders_91 : decode cX4_orders 91 = .ok (.ireturn, 1) := by decide +kernel
theorem dX4_orders_92 : decode cX4_orders 92 = .ok (.aload_n 0, 1) := by decide +kernel
theorem dX4_orders_93 : decode cX4_orders 93 = .ok (.getfield 51, 3) := by decide +kernel
theorem dX4_orders_96 : decode cX4_orders 96 = .ok (.iload_n 1, 1) := by decide +kernel
theorem dX4_orders_97 : decode cX4_orders 97 = .ok (.iload_n 2, 1) := by decide +kernel
theorem dX4_orders_98 : decode cX4_orders 98 = .ok (.invokevirtual 175, 3) := by decide +kernel
theorem dX4_orders_101 : decode cX4_orders 101 = .ok (.ireturn, 1) := by decide +kernel
theorem dX4_orders_102 : decode cX4_orders 102 = .ok (.aload_n 0, 1) := by decide +kernel
theorem dX4_orders_103 : decode cX4_orders 103 = .ok (.getfield 51, 3) := by decide +kernel
theorem dX4_orders_106 : decode cX4_orders 106 = .ok (.iload_n 1, 1) := by decide +kernel
theorem dX4_orders_107 : decode cX4_orders 107 = .ok (.iload_n 2, 1) := by decide +kernel
theorem dX4_orders_108 : decode cX4_orders 108 = .ok (.invokevirtual 178, 3) := by decide +kernel
theorem dX4_orders_111 : decode cX4_orders 111 = .ok (.ireturn, 1) := by decide +kernel
theorem dX4_isVisitor_0 : decode cX4_isVisitor 0 = .ok (.iload_n 0, 1) := by decide +kernel
theorem dX4_isVisitor_1 : decode cX4_isVisitor 1 = .ok (.ifCond .lt 13, 3) := by decide +kernel
theorem dX4_isVisitor_4 : decode cX4_isVisitor 4 = .ok (.iload_n 0, 1) := by decide +kernel
theorem dX4_isVisitor_5 : decode cX4_isVisitor 5 = .ok (.bipush 6, 2) := by decide +kernel
theorem dX4_isVisitor_7 : decode cX4_isVisitor 7 = .ok (.if_icmp .ge 7, 3) := by decide +kernel
theorem dX4_isVisitor_10 : decode cX4_isVisitor 10 = .ok (.iconst 1, 1) := by decide +kernel
theorem dX4_isVisitor_11 : decode cX4_isVisitor 11 = .ok (.goto 4, 3) := by decide +kernel
theorem dX4_isVisitor_14 : decode cX4_isVisitor 14 = .ok (.iconst 0, 1) := by decide +kernel
theorem dX4_isVisitor_15 : decode cX4_isVisitor 15 = .ok (.ireturn, 1) := by decide +kernel
theorem dX4_isCard_0 : decode cX4_isCard 0 = .ok (.iload_n 0, 1) := by decide +kernel
theorem dX4_isCard_1 : decode cX4_isCard 1 = .ok (.ifCond .lt 13, 3) := by decide +kernel
theorem dX4_isCard_4 : decode cX4_isCard 4 = .ok (.iload_n 0, 1) := by decide +kernel
theorem dX4_isCard_5 : decode cX4_isCard 5 = .ok (.bipush 7, 2) := by decide +kernel
theorem dX4_isCard_7 : decode cX4_isCard 7 = .ok (.if_icmp .ge 7, 3) := by decide +kernel
theorem dX4_isCard_10 : decode cX4_isCard 10 = .ok (.iconst 1, 1) := by decide +kernel
theorem dX4_isCard_11 : decode cX4_isCard 11 = .ok (.goto 4, 3) := by decide +kernel
theorem dX4_isCard_14 : decode cX4_isCard 14 = .ok (.iconst 0, 1) := by decide +kernel
theorem dX4_isCard_15 : decode cX4_isCard 15 = .ok (.ireturn, 1) := by decide +kernel
set_option maxRecDepth 20000 in
theorem ggX4_remember_X4_dropOldest : GoodIn wsX4_remember wsX4_dropOldest := goodIn_r _ [8, 2, 1, 30, 31, 32, 33, 34, 35, 36, 37, 38, 39] (by decide +kernel) (by decide +kernel)
set_option maxRecDepth 20000 in
theorem gX4_remember_X4_dropOldest : GoodIn wsX4_remember (wsV RX4 181 RX4 yX4_dropOldest wsX4_dropOldest) := goodIn_app (goodIn_of _ (by decide +kernel)) ggX4_remember_X4_dropOldest
set_option maxRecDepth 20000 in
theorem ggX4_remember_X3_copyFrom : GoodIn wsX4_remember wsX3_copyFrom := goodIn_r _ [13, 14, 15, 16, 17, 18, 19, 20, 21, 22, 23, 24, 25, 26, 27, 28, 29, 40, 41, 42, 43, 44, 45] (by decide +kernel) (by decide +kernel)
set_option maxRecDepth 20000 in
theorem gX4_remember_X3_copyFrom : GoodIn wsX4_remember (wsV RX4 114 RX3 yX3_copyFrom wsX3_copyFrom) := goodIn_app (goodIn_of _ (by decide +kernel)) ggX4_remember_X3_copyFrom
theorem dX4_remember_0 : decode cX4_remember 0 = .ok (.aload_n 0, 1) := by decide +kernel
theorem dX4_remember_1 : decode cX4_remember 1 = .ok (.getfield 30, 3) := by decide +kernel
theorem dX4_remember_4 : decode cX4_remember 4 = .ok (.iconst 4, 1) := by decide +kernel
theorem dX4_remember_5 : decode cX4_remember 5 = .ok (.if_icmp .lt 7, 3) := by decide +kernel
theorem dX4_remember_8 : decode cX4_remember 8 = .ok (.aload_n 0, 1) := by decide +kernel
theorem dX4_remember_9 : decode cX4_remember 9 = .ok (.invokevirtual 181, 3) := by decide +kernel
theorem dX4_remember_12 : decode cX4_remember 12 = .ok (.aload_n 0, 1) := by decide +kernel
theorem dX4_remember_13 : decode cX4_remember 13 = .ok (.getfield 26, 3) := by decide +kernel
theorem dX4_remember_16 : decode cX4_remember 16 = .ok (.aload_n 0, 1) := by decide +kernel
theorem dX4_remember_17 : decode cX4_remember 17 = .ok (.getfield 30, 3) := by decide +kernel
theorem dX4_remember_20 : decode cX4_remember 20 = .ok (.aaload, 1) := by decide +kernel
theorem dX4_remember_21 : decode cX4_remember 21 = .ok (.aload_n 0, 1) := by decide +kernel
theorem dX4_remember_22 : decode cX4_remember 22 = .ok (.getfield 12, 3) := by decide +kernel
theorem dX4_remember_25 : decode cX4_remember 25 = .ok (.invokevirtual 114, 3) := by decide +kernel
theorem dX4_remember_28 : decode cX4_remember 28 = .ok (.aload_n 0, 1) := by decide +kernel
theorem dX4_remember_29 : decode cX4_remember 29 = .ok (.dup, 1) := by decide +kernel
theorem dX4_remember_30 : decode cX4_remember 30 = .ok (.getfield 30, 3) := by decide +kernel
theorem dX4_remember_33 : decode cX4_remember 33 = .ok (.iconst 1, 1) := by decide +kernel
theorem dX4_remember_34 : decode cX4_remember 34 = .ok (.iadd, 1) := by decide +kernel
theorem dX4_remember_35 : decode cX4_remember 35 = .ok (.putfield 30, 3) := by decide +kernel
theorem dX4_remember_38 : decode cX4_remember 38 = .ok (.return_, 1) := by decide +kernel
theorem dX4_dropOldest_0 : decode cX4_dropOldest 0 = .ok (.aload_n 0, 1) := by decide +kernel
theorem dX4_dropOldest_1 : decode cX4_dropOldest 1 = .ok (.getfield 26, 3) := by decide +kernel
theorem dX4_dropOldest_4 : decode cX4_dropOldest 4 = .ok (.iconst 0, 1) := by decide +kernel
theorem dX4_dropOldest_5 : decode cX4_dropOldest 5 = .ok (.aaload, 1) := by decide +kernel
theorem dX4_dropOldest_6 : decode cX4_dropOldest 6 = .ok (.astore_n 1, 1) := by decide +kernel
theorem dX4_dropOldest_7 : decode cX4_dropOldest 7 = .ok (.iconst 1, 1) := by decide +kernel
theorem dX4_dropOldest_8 : decode cX4_dropOldest 8 = .ok (.istore_n 2, 1) := by decide +kernel
theorem dX4_dropOldest_9 : decode cX4_dropOldest 9 = .ok (.iload_n 2, 1) := by decide +kernel
theorem dX4_dropOldest_10 : decode cX4_dropOldest 10 = .ok (.iconst 4, 1) := by decide +kernel
theorem dX4_dropOldest_11 : decode cX4_dropOldest 11 = .ok (.if_icmp .ge 23, 3) := by decide +kernel
theorem dX4_dropOldest_14 : decode cX4_dropOldest 14 = .ok (.aload_n 0, 1) := by decide +kernel
theorem dX4_dropOldest_15 : decode cX4_dropOldest 15 = .ok (.getfield 26, 3) := by decide +kernel
theorem dX4_dropOldest_18 : decode cX4_dropOldest 18 = .ok (.iload_n 2, 1) := by decide +kernel
theorem dX4_dropOldest_19 : decode cX4_dropOldest 19 = .ok (.iconst 1, 1) := by decide +kernel
theorem dX4_dropOldest_20 : decode cX4_dropOldest 20 = .ok (.isub, 1) := by decide +kernel
theorem dX4_dropOldest_21 : decode cX4_dropOldest 21 = .ok (.aload_n 0, 1) := by decide +kernel
theorem dX4_dropOldest_22 : decode cX4_dropOldest 22 = .ok (.getfield 26, 3) := by decide +kernel
theorem dX4_dropOldest_25 : decode cX4_dropOldest 25 = .ok (.iload_n 2, 1) := by decide +kernel
theorem dX4_dropOldest_26 : decode cX4_dropOldest 26 = .ok (.aaload, 1) := by decide +kernel
theorem dX4_dropOldest_27 : decode cX4_dropOldest 27 = .ok (.aastore, 1) := by decide +kernel
theorem dX4_dropOldest_28 : decode cX4_dropOldest 28 = .ok (.iinc 2 1, 3) := by decide +kernel
theorem dX4_dropOldest_31 : decode cX4_dropOldest 31 = .ok (.goto (-22), 3) := by decide +kernel
theorem dX4_dropOldest_34 : decode cX4_dropOldest 34 = .ok (.aload_n 0, 1) := by decide +kernel
theorem dX4_dropOldest_35 : decode cX4_dropOldest 35 = .ok (.getfield 26, 3) := by decide +kernel
theorem dX4_dropOldest_38 : decode cX4_dropOldest 38 = .ok (.iconst 3, 1) := by decide +kernel
theorem dX4_dropOldest_39 : decode cX4_dropOldest 39 = .ok (.aload_n 1, 1) := by decide +kernel
theorem dX4_dropOldest_40 : decode cX4_dropOldest 40 = .ok (.aastore, 1) := by decide +kernel
theorem dX4_dropOldest_41 : decode cX4_dropOldest 41 = .ok (.aload_n 0, 1) := by decide +kernel
theorem dX4_dropOldest_42 : decode cX4_dropOldest 42 = .ok (.iconst 3, 1) := by decide +kernel
theorem dX4_dropOldest_43 : decode cX4_dropOldest 43 = .ok (.putfield 30, 3) := by decide +kernel
theorem dX4_dropOldest_46 : decode cX4_dropOldest 46 = .ok (.return_, 1) := by decide +kernel
theorem dJ6_bitCount_0f7a4_0 : decode cJ6_bitCount_0f7a4 0 = .ok (.iload_n 0, 1) := by decide +kernel
theorem dJ6_bitCount_0f7a4_1 : decode cJ6_bitCount_0f7a4 1 = .ok (.iload_n 0, 1) := by decide +kernel
theorem dJ6_bitCount_0f7a4_2 : decode cJ6_bitCount_0f7a4 2 = .ok (.iconst 1, 1) := by decide +kernel
theorem dJ6_bitCount_0f7a4_3 : decode cJ6_bitCount_0f7a4 3 = .ok (.iushr, 1) := by decide +kernel
theorem dJ6_bitCount_0f7a4_4 : decode cJ6_bitCount_0f7a4 4 = .ok (.ldc_w 265, 3) := by decide +kernel
theorem dJ6_bitCount_0f7a4_7 : decode cJ6_bitCount_0f7a4 7 = .ok (.iand, 1) := by decide +kernel
theorem dJ6_bitCount_0f7a4_8 : decode cJ6_bitCount_0f7a4 8 = .ok (.isub, 1) := by decide +kernel
theorem dJ6_bitCount_0f7a4_9 : decode cJ6_bitCount_0f7a4 9 = .ok (.istore_n 0, 1) := by decide +kernel
theorem dJ6_bitCount_0f7a4_10 : decode cJ6_bitCount_0f7a4 10 = .ok (.iload_n 0, 1) := by decide +kernel
theorem dJ6_bitCount_0f7a4_11 : decode cJ6_bitCount_0f7a4 11 = .ok (.ldc_w 266, 3) := by decide +kernel
theorem dJ6_bitCount_0f7a4_14 : decode cJ6_bitCount_0f7a4 14 = .ok (.iand, 1) := by decide +kernel
theorem dJ6_bitCount_0f7a4_15 : decode cJ6_bitCount_0f7a4 15 = .ok (.iload_n 0, 1) := by decide +kernel
theorem dJ6_bitCount_0f7a4_16 : decode cJ6_bitCount_0f7a4 16 = .ok (.iconst 2, 1) := by decide +kernel
theorem dJ6_bitCount_0f7a4_17 : decode cJ6_bitCount_0f7a4 17 = .ok (.iushr, 1) := by decide +kernel
theorem dJ6_bitCount_0f7a4_18 : decode cJ6_bitCount_0f7a4 18 = .ok (.ldc_w 266, 3) := by decide +kernel
theorem dJ6_bitCount_0f7a4_21 : decode cJ6_bitCount_0f7a4 21 = .ok (.iand, 1) := by decide +kernel
theorem dJ6_bitCount_0f7a4_22 : decode cJ6_bitCount_0f7a4 22 = .ok (.iadd, 1) := by decide +kernel
theorem dJ6_bitCount_0f7a4_23 : decode cJ6_bitCount_0f7a4 23 = .ok (.istore_n 0, 1) := by decide +kernel
theorem dJ6_bitCount_0f7a4_24 : decode cJ6_bitCount_0f7a4 24 = .ok (.iload_n 0, 1) := by decide +kernel
theorem dJ6_bitCount_0f7a4_25 : decode cJ6_bitCount_0f7a4 25 = .ok (.iload_n 0, 1) := by decide +kernel
theorem dJ6_bitCount_0f7a4_26 : decode cJ6_bitCount_0f7a4 26 = .ok (.iconst 4, 1) := by decide +kernel
theorem dJ6_bitCount_0f7a4_27 : decode cJ6_bitCount_0f7a4 27 = .ok (.iushr, 1) := by decide +kernel
theorem dJ6_bitCount_0f7a4_28 : decode cJ6_bitCount_0f7a4 28 = .ok (.iadd, 1) := by decide +kernel
theorem dJ6_bitCount_0f7a4_29 : decode cJ6_bitCount_0f7a4 29 = .ok (.ldc_w 267, 3) := by decide +kernel
theorem dJ6_bitCount_0f7a4_32 : decode cJ6_bitCount_0f7a4 32 = .ok (.iand, 1) := by decide +kernel
theorem dJ6_bitCount_0f7a4_33 : decode cJ6_bitCount_0f7a4 33 = .ok (.istore_n 0, 1) := by decide +kernel
theorem dJ6_bitCount_0f7a4_34 : decode cJ6_bitCount_0f7a4 34 = .ok (.iload_n 0, 1) := by decide +kernel
theorem dJ6_bitCount_0f7a4_35 : decode cJ6_bitCount_0f7a4 35 = .ok (.iload_n 0, 1) := by decide +kernel
theorem dJ6_bitCount_0f7a4_36 : decode cJ6_bitCount_0f7a4 36 = .ok (.bipush 8, 2) := by decide +kernel
theorem dJ6_bitCount_0f7a4_38 : decode cJ6_bitCount_0f7a4 38 = .ok (.iushr, 1) := by decide +kernel
theorem dJ6_bitCount_0f7a4_39 : decode cJ6_bitCount_0f7a4 39 = .ok (.iadd, 1) := by decide +kernel
theorem dJ6_bitCount_0f7a4_40 : decode cJ6_bitCount_0f7a4 40 = .ok (.istore_n 0, 1) := by decide +kernel
theorem dJ6_bitCount_0f7a4_41 : decode cJ6_bitCount_0f7a4 41 = .ok (.iload_n 0, 1) := by decide +kernel
theorem dJ6_bitCount_0f7a4_42 : decode cJ6_bitCount_0f7a4 42 = .ok (.iload_n 0, 1) := by decide +kernel
theorem dJ6_bitCount_0f7a4_43 : decode cJ6_bitCount_0f7a4 43 = .ok (.bipush 16, 2) := by decide +kernel
theorem dJ6_bitCount_0f7a4_45 : decode cJ6_bitCount_0f7a4 45 = .ok (.iushr, 1) := by decide +kernel
theorem dJ6_bitCount_0f7a4_46 : decode cJ6_bitCount_0f7a4 46 = .ok (.iadd, 1) := by decide +kernel
theorem dJ6_bitCount_0f7a4_47 : decode cJ6_bitCount_0f7a4 47 = .ok (.istore_n 0, 1) := by decide +kernel
theorem dJ6_bitCount_0f7a4_48 : decode cJ6_bitCount_0f7a4 48 = .ok (.iload_n 0, 1) := by decide +kernel
theorem dJ6_bitCount_0f7a4_49 : decode cJ6_bitCount_0f7a4 49 = .ok (.bipush 63, 2) := by decide +kernel
theorem dJ6_bitCount_0f7a4_51 : decode cJ6_bitCount_0f7a4 51 = .ok (.iand, 1) := by decide +kernel
theorem dJ6_bitCount_0f7a4_52 : decode cJ6_bitCount_0f7a4 52 = .ok (.ireturn, 1) := by decide +kernel
abbrev vwCl : List vw_C := [(RX0, TX0, 4), (RX1, TX1, 1), (RX2, TX2, 5), (RX3, TX3, 5), (RX4, TX4, 10)]
