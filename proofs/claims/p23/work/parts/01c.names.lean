theorem dX2_expand_51 : decode cX2_expand 51 = .ok (.goto 68, 3) := by decide +kernel
theorem dX2_expand_54 : decode cX2_expand 54 = .ok (.iload 5, 2) := by decide +kernel
theorem dX2_expand_56 : decode cX2_expand 56 = .ok (.bipush 40, 2) := by decide +kernel
theorem dX2_expand_58 : decode cX2_expand 58 = .ok (.if_icmp .ne 13, 3) := by decide +kernel
theorem dX2_expand_61 : decode cX2_expand 61 = .ok (.aload_n 0, 1) := by decide +kernel
theorem dX2_expand_62 : decode cX2_expand 62 = .ok (.iload_n 3, 1) := by decide +kernel
theorem dX2_expand_63 : decode cX2_expand 63 = .ok (.invokevirtual 36, 3) := by decide +kernel
theorem dX2_expand_66 : decode cX2_expand 66 = .ok (.iconst 1, 1) := by decide +kernel
theorem dX2_expand_67 : decode cX2_expand 67 = .ok (.istore_n 3, 1) := by decide +kernel
theorem dX2_expand_68 : decode cX2_expand 68 = .ok (.goto 51, 3) := by decide +kernel
theorem dX2_expand_71 : decode cX2_expand 71 = .ok (.iload 5, 2) := by decide +kernel
theorem dX2_expand_73 : decode cX2_expand 73 = .ok (.bipush 41, 2) := by decide +kernel
theorem dX2_expand_75 : decode cX2_expand 75 = .ok (.if_icmp .ne 12, 3) := by decide +kernel
theorem dX2_expand_78 : decode cX2_expand 78 = .ok (.aload_n 0, 1) := by decide +kernel
theorem dX2_expand_79 : decode cX2_expand 79 = .ok (.invokevirtual 40, 3) := by decide +kernel
theorem dX2_expand_82 : decode cX2_expand 82 = .ok (.istore 6, 2) := by decide +kernel
theorem dX2_expand_84 : decode cX2_expand 84 = .ok (.goto 35, 3) := by decide +kernel
theorem dX2_expand_87 : decode cX2_expand 87 = .ok (.aload_n 0, 1) := by decide +kernel
theorem dX2_expand_88 : decode cX2_expand 88 = .ok (.iload 5, 2) := by decide +kernel
theorem dX2_expand_90 : decode cX2_expand 90 = .ok (.invokevirtual 44, 3) := by decide +kernel
theorem dX2_expand_93 : decode cX2_expand 93 = .ok (.ifCond .eq 21, 3) := by decide +kernel
theorem dX2_expand_96 : decode cX2_expand 96 = .ok (.aload_n 0, 1) := by decide +kernel
theorem dX2_expand_97 : decode cX2_expand 97 = .ok (.aload_n 0, 1) := by decide +kernel
theorem dX2_expand_98 : decode cX2_expand 98 = .ok (.getfield 22, 3) := by decide +kernel
theorem dX2_expand_101 : decode cX2_expand 101 = .ok (.iconst 1, 1) := by decide +kernel
theorem dX2_expand_102 : decode cX2_expand 102 = .ok (.isub, 1) := by decide +kernel
theorem dX2_expand_103 : decode cX2_expand 103 = .ok (.iload_n 3, 1) := by decide +kernel
theorem dX2_expand_104 : decode cX2_expand 104 = .ok (.invokevirtual 47, 3) := by decide +kernel
theorem dX2_expand_107 : decode cX2_expand 107 = .ok (.ifCond .eq 7, 3) := by decide +kernel
theorem dX2_expand_110 : decode cX2_expand 110 = .ok (.iconst 1, 1) := by decide +kernel
theorem dX2_expand_111 : decode cX2_expand 111 = .ok (.goto 4, 3) := by decide +kernel
theorem dX2_expand_114 : decode cX2_expand 114 = .ok (.iconst 0, 1) := by decide +kernel
theorem dX2_expand_115 : decode cX2_expand 115 = .ok (.istore 6, 2) := by decide +kernel
theorem dX2_expand_117 : decode cX2_expand 117 = .ok (.iconst 1, 1) := by decide +kernel
theorem dX2_expand_118 : decode cX2_expand 118 = .ok (.istore_n 3, 1) := by decide +kernel
theorem dX2_expand_119 : decode cX2_expand 119 = .ok (.iload 6, 2) := by decide +kernel
theorem dX2_expand_121 : decode cX2_expand 121 = .ok (.ifCond .ne 6, 3) := by decide +kernel
theorem dX2_expand_124 : decode cX2_expand 124 = .ok (.bipush (-3), 2) := by decide +kernel
theorem dX2_expand_126 : decode cX2_expand 126 = .ok (.ireturn, 1) := by decide +kernel
theorem dX2_expand_127 : decode cX2_expand 127 = .ok (.iinc 4 1, 3) := by decide +kernel
theorem dX2_expand_130 : decode cX2_expand 130 = .ok (.goto (-115), 3) := by decide +kernel
theorem dX2_expand_133 : decode cX2_expand 133 = .ok (.aload_n 0, 1) := by decide +kernel
theorem dX2_expand_134 : decode cX2_expand 134 = .ok (.getfield 22, 3) := by decide +kernel
theorem dX2_expand_137 : decode cX2_expand 137 = .ok (.ireturn, 1) := by decide +kernel
theorem dX2_openBracket_0 : decode cX2_openBracket 0 = .ok (.aload_n 0, 1) := by decide +kernel
theorem dX2_openBracket_1 : decode cX2_openBracket 1 = .ok (.getfield 26, 3) := by decide +kernel
theorem dX2_openBracket_4 : decode cX2_openBracket 4 = .ok (.bipush 60, 2) := by decide +kernel
theorem dX2_openBracket_6 : decode cX2_openBracket 6 = .ok (.if_icmp .ge 36, 3) := by decide +kernel
theorem dX2_openBracket_9 : decode cX2_openBracket 9 = .ok (.aload_n 0, 1) := by decide +kernel
theorem dX2_openBracket_10 : decode cX2_openBracket 10 = .ok (.getfield 15, 3) := by decide +kernel
theorem dX2_openBracket_13 : decode cX2_openBracket 13 = .ok (.aload_n 0, 1) := by decide +kernel
theorem dX2_openBracket_14 : decode cX2_openBracket 14 = .ok (.getfield 26, 3) := by decide +kernel
theorem dX2_openBracket_17 : decode cX2_openBracket 17 = .ok (.aload_n 0, 1) := by decide +kernel
theorem dX2_openBracket_18 : decode cX2_openBracket 18 = .ok (.getfield 22, 3) := by decide +kernel
theorem dX2_openBracket_21 : decode cX2_openBracket 21 = .ok (.iastore, 1) := by decide +kernel
theorem dX2_openBracket_22 : decode cX2_openBracket 22 = .ok (.aload_n 0, 1) := by decide +kernel
theorem dX2_openBracket_23 : decode cX2_openBracket 23 = .ok (.getfield 19, 3) := by decide +kernel
theorem dX2_openBracket_26 : decode cX2_openBracket 26 = .ok (.aload_n 0, 1) := by decide +kernel
theorem dX2_openBracket_27 : decode cX2_openBracket 27 = .ok (.getfield 26, 3) := by decide +kernel
theorem dX2_openBracket_30 : decode cX2_openBracket 30 = .ok (.iload_n 1, 1) := by decide +kernel
theorem dX2_openBracket_31 : decode cX2_openBracket 31 = .ok (.iastore, 1) := by decide +kernel
theorem dX2_openBracket_32 : decode cX2_openBracket 32 = .ok (.aload_n 0, 1) := by decide +kernel
theorem dX2_openBracket_33 : decode cX2_openBracket 33 = .ok (.dup, 1) := by decide +kernel
theorem dX2_openBracket_34 : decode cX2_openBracket 34 = .ok (.getfield 26, 3) := by decide +kernel
theorem dX2_openBracket_37 : decode cX2_openBracket 37 = .ok (.iconst 1, 1) := by decide +kernel
theorem dX2_openBracket_38 : decode cX2_openBracket 38 = .ok (.iadd, 1) := by decide +kernel
theorem dX2_openBracket_39 : decode cX2_openBracket 39 = .ok (.putfield 26, 3) := by decide +kernel
theorem dX2_openBracket_42 : decode cX2_openBracket 42 = .ok (.return_, 1) := by decide +kernel
set_option maxRecDepth 20000 in
theorem ggX2_closeBracket_X2_repeat : GoodIn wsX2_closeBracket wsX2_repeat := goodIn_r _ [8, 9, 10, 11, 12, 13, 14, 15, 16, 17, 18, 19] (by decide +kernel) (by decide +kernel)
set_option maxRecDepth 20000 in
theorem gX2_closeBracket_X2_repeat : GoodIn wsX2_closeBracket (wsV RX2 47 RX2 yX2_repeat wsX2_repeat) := goodIn_app (goodIn_of _ (by decide +kernel)) ggX2_closeBracket_X2_repeat
theorem dX2_closeBracket_0 : decode cX2_closeBracket 0 = .ok (.aload_n 0, 1) := by decide +kernel
theorem dX2_closeBracket_1 : decode cX2_closeBracket 1 = .ok (.getfield 26, 3) := by decide +kernel
theorem dX2_closeBracket_4 : decode cX2_closeBracket 4 = .ok (.iconst 1, 1) := by decide +kernel
theorem dX2_closeBracket_5 : decode cX2_closeBracket 5 = .ok (.if_icmp .ge 5, 3) := by decide +kernel
theorem dX2_closeBracket_8 : decode cX2_closeBracket 8 = .ok (.iconst 0, 1) := by decide +kernel
theorem dX2_closeBracket_9 : decode cX2_closeBracket 9 = .ok (.ireturn, 1) := by decide +kernel
theorem dX2_closeBracket_10 : decode cX2_closeBracket 10 = .ok (.aload_n 0, 1) := by decide +kernel
theorem dX2_closeBracket_11 : decode cX2_closeBracket 11 = .ok (.dup, 1) := by decide +kernel
theorem dX2_closeBracket_12 : decode cX2_closeBracket 12 = .ok (.getfield 26, 3) := by decide +kernel
theorem dX2_closeBracket_15 : decode cX2_closeBracket 15 = .ok (.iconst 1, 1) := by decide +kernel
theorem dX2_closeBracket_16 : decode cX2_closeBracket 16 = .ok (.isub, 1) := by decide +kernel
theorem dX2_closeBracket_17 : decode cX2_closeBracket 17 = .ok (.putfield 26, 3) := by decide +kernel
theorem dX2_closeBracket_20 : decode cX2_closeBracket 20 = .ok (.aload_n 0, 1) := by decide +kernel
theorem dX2_closeBracket_21 : decode cX2_closeBracket 21 = .ok (.aload_n 0, 1) := by decide +kernel
theorem dX2_closeBracket_22 : decode cX2_closeBracket 22 = .ok (.getfield 15, 3) := by decide +kernel
theorem dX2_closeBracket_25 : decode cX2_closeBracket 25 = .ok (.aload_n 0, 1) := by decide +kernel
theorem dX2_closeBracket_26 : decode cX2_closeBracket 26 = .ok (.getfield 26, 3) := by decide +kernel
theorem dX2_closeBracket_29 : decode cX2_closeBracket 29 = .ok (.iaload, 1) := by decide +kernel
theorem dX2_closeBracket_30 : decode cX2_closeBracket 30 = .ok (.aload_n 0, 1) := by decide +kernel
theorem dX2_closeBracket_31 : decode cX2_closeBracket 31 = .ok (.getfield 19, 3) := by decide +kernel
theorem dX2_closeBracket_34 : decode cX2_closeBracket 34 = .ok (.aload_n 0, 1) := by decide +kernel
theorem dX2_closeBracket_35 : decode cX2_closeBracket 35 = .ok (.getfield 26, 3) := by decide +kernel
theorem dX2_closeBracket_38 : decode cX2_closeBracket 38 = .ok (.iaload, 1) := by decide +kernel
theorem dX2_closeBracket_39 : decode cX2_closeBracket 39 = .ok (.invokevirtual 47, 3) := by decide +kernel
theorem dX2_closeBracket_42 : decode cX2_closeBracket 42 = .ok (.ireturn, 1) := by decide +kernel
set_option maxRecDepth 20000 in
theorem ggX2_append_X2_isLetter : GoodIn wsX2_append wsX2_isLetter := goodIn_r _ [6] (by decide +kernel) (by decide +kernel)
set_option maxRecDepth 20000 in
theorem gX2_append_X2_isLetter : GoodIn wsX2_append (va_wsS RX2 29 yX2_isLetter wsX2_isLetter) := goodIn_app (goodIn_of _ (by decide +kernel)) ggX2_append_X2_isLetter
theorem dX2_append_0 : decode cX2_append 0 = .ok (.aload_n 0, 1) := by decide +kernel
theorem dX2_append_1 : decode cX2_append 1 = .ok (.getfield 22, 3) := by decide +kernel
theorem dX2_append_4 : decode cX2_append 4 = .ok (.sipush 2000, 3) := by decide +kernel
theorem dX2_append_7 : decode cX2_append 7 = .ok (.if_icmp .ge 10, 3) := by decide +kernel
theorem dX2_append_10 : decode cX2_append 10 = .ok (.iload_n 1, 1) := by decide +kernel
theorem dX2_append_11 : decode cX2_append 11 = .ok (.invokestatic 29, 3) := by decide +kernel
theorem dX2_append_14 : decode cX2_append 14 = .ok (.ifCond .ne 5, 3) := by decide +kernel
theorem dX2_append_17 : decode cX2_append 17 = .ok (.iconst 0, 1) := by decide +kernel
theorem dX2_append_18 : decode cX2_append 18 = .ok (.ireturn, 1) := by decide +kernel
theorem dX2_append_19 : decode cX2_append 19 = .ok (.aload_n 0, 1) := by decide +kernel
theorem dX2_append_20 : decode cX2_append 20 = .ok (.getfield 9, 3) := by decide +kernel
theorem dX2_append_23 : decode cX2_append 23 = .ok (.aload_n 0, 1) := by decide +kernel
theorem dX2_append_24 : decode cX2_append 24 = .ok (.getfield 22, 3) := by decide +kernel
theorem dX2_append_27 : decode cX2_append 27 = .ok (.iload_n 1, 1) := by decide +kernel
theorem dX2_append_28 : decode cX2_append 28 = .ok (.bipush 97, 2) := by decide +kernel
theorem dX2_append_30 : decode cX2_append 30 = .ok (.isub, 1) := by decide +kernel
theorem dX2_append_31 : decode cX2_append 31 = .ok (.i2b, 1) := by decide +kernel
theorem dX2_append_32 : decode cX2_append 32 = .ok (.bastore, 1) := by decide +kernel
theorem dX2_append_33 : decode cX2_append 33 = .ok (.aload_n 0, 1) := by decide +kernel
theorem dX2_append_34 : decode cX2_append 34 = .ok (.dup, 1) := by decide +kernel
theorem dX2_append_35 : decode cX2_append 35 = .ok (.getfield 22, 3) := by decide +kernel
theorem dX2_append_38 : decode cX2_append 38 = .ok (.iconst 1, 1) := by decide +kernel
theorem dX2_append_39 : decode cX2_append 39 = .ok (.iadd, 1) := by decide +kernel
theorem dX2_append_40 : decode cX2_append 40 = .ok (.putfield 22, 3) := by decide +kernel
theorem dX2_append_43 : decode cX2_append 43 = .ok (.iconst 1, 1) := by decide +kernel
theorem dX2_append_44 : decode cX2_append 44 = .ok (.ireturn, 1) := by decide +kernel
theorem dX2_repeat_0 : decode cX2_repeat 0 = .ok (.aload_n 0, 1) := by decide +kernel
theorem dX2_repeat_1 : decode cX2_repeat 1 = .ok (.getfield 22, 3) := by decide +kernel
theorem dX2_repeat_4 : decode cX2_repeat 4 = .ok (.iload_n 1, 1) := by decide +kernel
theorem dX2_repeat_5 : decode cX2_repeat 5 = .ok (.isub, 1) := by decide +kernel
theorem dX2_repeat_6 : decode cX2_repeat 6 = .ok (.istore_n 3, 1) := by decide +kernel
theorem dX2_repeat_7 : decode cX2_repeat 7 = .ok (.iload_n 1, 1) := by decide +kernel
theorem dX2_repeat_8 : decode cX2_repeat 8 = .ok (.iload_n 3, 1) := by decide +kernel
theorem dX2_repeat_9 : decode cX2_repeat 9 = .ok (.iload_n 2, 1) := by decide +kernel
theorem dX2_repeat_10 : decode cX2_repeat 10 = .ok (.imul, 1) := by decide +kernel
theorem dX2_repeat_11 : decode cX2_repeat 11 = .ok (.iadd, 1) := by decide +kernel
theorem dX2_repeat_12 : decode cX2_repeat 12 = .ok (.sipush 2000, 3) := by decide +kernel
theorem dX2_repeat_15 : decode cX2_repeat 15 = .ok (.if_icmp .le 5, 3) := by decide +kernel
theorem dX2_repeat_18 : decode cX2_repeat 18 = .ok (.iconst 0, 1) := by decide +kernel
theorem dX2_repeat_19 : decode cX2_repeat 19 = .ok (.ireturn, 1) := by decide +kernel
theorem dX2_repeat_20 : decode cX2_repeat 20 = .ok (.iconst 1, 1) := by decide +kernel
theorem dX2_repeat_21 : decode cX2_repeat 21 = .ok (.istore 4, 2) := by decide +kernel
theorem dX2_repeat_23 : decode cX2_repeat 23 = .ok (.iload 4, 2) := by decide +kernel
theorem dX2_repeat_25 : decode cX2_repeat 25 = .ok (.iload_n 2, 1) := by decide +kernel
theorem dX2_repeat_26 : decode cX2_repeat 26 = .ok (.if_icmp .ge 36, 3) := by decide +kernel
theorem dX2_repeat_29 : decode cX2_repeat 29 = .ok (.aload_n 0, 1) := by decide +kernel
theorem dX2_repeat_30 : decode cX2_repeat 30 = .ok (.getfield 9, 3) := by decide +kernel
theorem dX2_repeat_33 : decode cX2_repeat 33 = .ok (.iload_n 1, 1) := by decide +kernel
theorem dX2_repeat_34 : decode cX2_repeat 34 = .ok (.aload_n 0, 1) := by decide +kernel
theorem dX2_repeat_35 : decode cX2_repeat 35 = .ok (.getfield 9, 3) := by decide +kernel
theorem dX2_repeat_38 : decode cX2_repeat 38 = .ok (.aload_n 0, 1) := by decide +kernel
theorem dX2_repeat_39 : decode cX2_repeat 39 = .ok (.getfield 22, 3) := by decide +kernel
theorem dX2_repeat_42 : decode cX2_repeat 42 = .ok (.iload_n 3, 1) := by decide +kernel
theorem dX2_repeat_43 : decode cX2_repeat 43 = .ok (.invokestatic 51, 3) := by decide +kernel
theorem dX2_repeat_46 : decode cX2_repeat 46 = .ok (.aload_n 0, 1) := by decide +kernel
theorem dX2_repeat_47 : decode cX2_repeat 47 = .ok (.dup, 1) := by decide +kernel
theorem dX2_repeat_48 : decode cX2_repeat 48 = .ok (.getfield 22, 3) := by decide +kernel
theorem dX2_repeat_51 : decode cX2_repeat 51 = .ok (.iload_n 3, 1) := by decide +kernel
theorem dX2_repeat_52 : decode cX2_repeat 52 = .ok (.iadd, 1) := by decide +kernel
theorem dX2_repeat_53 : decode cX2_repeat 53 = .ok (.putfield 22, 3) := by decide +kernel
theorem dX2_repeat_56 : decode cX2_repeat 56 = .ok (.iinc 4 1, 3) := by decide +kernel
theorem dX2_repeat_59 : decode cX2_repeat 59 = .ok (.goto (-36), 3) := by decide +kernel
theorem dX2_repeat_62 : decode cX2_repeat 62 = .ok (.iconst 1, 1) := by decide +kernel
theorem dX2_repeat_63 : decode cX2_repeat 63 = .ok (.ireturn, 1) := by decide +kernel
set_option maxRecDepth 20000 in
theorem ggX3_init_X1_init : GoodIn wsX3_init wsX1_init := goodIn_r _ [15, 16, 2, 3, 8, 17, 18, 19, 20, 6, 21, 22] (by decide +kernel) (by decide +kernel)
set_option maxRecDepth 20000 in
theorem gX3_init_X1_init : GoodIn wsX3_init (wsX1_init) := ggX3_init_X1_init
theorem dX3_init_0 : decode cX3_init 0 = .ok (.aload_n 0, 1) := by decide +kernel
theorem dX3_init_1 : decode cX3_init 1 = .ok (.invokespecial 5, 3) := by decide +kernel
theorem dX3_init_4 : decode cX3_init 4 = .ok (.aload_n 0, 1) := by decide +kernel
theorem dX3_init_5 : decode cX3_init 5 = .ok (.new 11, 3) := by decide +kernel
theorem dX3_init_8 : decode cX3_init 8 = .ok (.dup, 1) := by decide +kernel
theorem dX3_init_9 : decode cX3_init 9 = .ok (.invokespecial 13, 3) := by decide +kernel
theorem dX3_init_12 : decode cX3_init 12 = .ok (.putfield 14, 3) := by decide +kernel
theorem dX3_init_15 : decode cX3_init 15 = .ok (.aload_n 0, 1) := by decide +kernel
theorem dX3_init_16 : decode cX3_init 16 = .ok (.bipush 24, 2) := by decide +kernel
theorem dX3_init_18 : decode cX3_init 18 = .ok (.newarray .int, 2) := by decide +kernel
theorem dX3_init_20 : decode cX3_init 20 = .ok (.putfield 18, 3) := by decide +kernel
theorem dX3_init_23 : decode cX3_init 23 = .ok (.aload_n 0, 1) := by decide +kernel
theorem dX3_init_24 : decode cX3_init 24 = .ok (.bipush 6, 2) := by decide +kernel
theorem dX3_init_26 : decode cX3_init 26 = .ok (.newarray .int, 2) := by decide +kernel
theorem dX3_init_28 : decode cX3_init 28 = .ok (.putfield 22, 3) := by decide +kernel
theorem dX3_init_31 : decode cX3_init 31 = .ok (.aload_n 0, 1) := by decide +kernel
theorem dX3_init_32 : decode cX3_init 32 = .ok (.iconst 0, 1) := by decide +kernel
theorem dX3_init_33 : decode cX3_init 33 = .ok (.putfield 25, 3) := by decide +kernel
theorem dX3_init_36 : decode cX3_init 36 = .ok (.aload_n 0, 1) := by decide +kernel
theorem dX3_init_37 : decode cX3_init 37 = .ok (.iconst 1, 1) := by decide +kernel
theorem dX3_init_38 : decode cX3_init 38 = .ok (.putfield 29, 3) := by decide +kernel
theorem dX3_init_41 : decode cX3_init 41 = .ok (.return_, 1) := by decide +kernel
set_option maxRecDepth 20000 in
theorem ggX3_copyFrom_X1_copyFrom : GoodIn wsX3_copyFrom wsX1_copyFrom := goodIn_r _ [14, 15, 16, 4, 5, 6, 22] (by decide +kernel) (by decide +kernel)
set_option maxRecDepth 20000 in
theorem gX3_copyFrom_X1_copyFrom : GoodIn wsX3_copyFrom (wsV RX3 32 RX1 yX1_copyFrom wsX1_copyFrom) := goodIn_app (goodIn_of _ (by decide +kernel)) ggX3_copyFrom_X1_copyFrom
theorem dX3_copyFrom_0 : decode cX3_copyFrom 0 = .ok (.aload_n 0, 1) := by decide +kernel
theorem dX3_copyFrom_1 : decode cX3_copyFrom 1 = .ok (.getfield 14, 3) := by decide +kernel
theorem dX3_copyFrom_4 : decode cX3_copyFrom 4 = .ok (.aload_n 1, 1) := by decide +kernel
theorem dX3_copyFrom_5 : decode cX3_copyFrom 5 = .ok (.getfield 14, 3) := by decide +kernel
theorem dX3_copyFrom_8 : decode cX3_copyFrom 8 = .ok (.invokevirtual 32, 3) := by decide +kernel
theorem dX3_copyFrom_11 : decode cX3_copyFrom 11 = .ok (.aload_n 1, 1) := by decide +kernel
theorem dX3_copyFrom_12 : decode cX3_copyFrom 12 = .ok (.getfield 18, 3) := by decide +kernel
theorem dX3_copyFrom_15 : decode cX3_copyFrom 15 = .ok (.iconst 0, 1) := by decide +kernel
theorem dX3_copyFrom_16 : decode cX3_copyFrom 16 = .ok (.aload_n 0, 1) := by decide +kernel
theorem dX3_copyFrom_17 : decode cX3_copyFrom 17 = .ok (.getfield 18, 3) := by decide +kernel
theorem dX3_copyFrom_20 : decode cX3_copyFrom 20 = .ok (.iconst 0, 1) := by decide +kernel
theorem dX3_copyFrom_21 : decode cX3_copyFrom 21 = .ok (.bipush 24, 2) := by decide +kernel
theorem dX3_copyFrom_23 : decode cX3_copyFrom 23 = .ok (.invokestatic 36, 3) := by decide +kernel
theorem dX3_copyFrom_26 : decode cX3_copyFrom 26 = .ok (.aload_n 1, 1) := by decide +kernel
theorem dX3_copyFrom_27 : decode cX3_copyFrom 27 = .ok (.getfield 22, 3) := by decide +kernel
theorem dX3_copyFrom_30 : decode cX3_copyFrom 30 = .ok (.iconst 0, 1) := by decide +kernel
theorem dX3_copyFrom_31 : decode cX3_copyFrom 31 = .ok (.aload_n 0, 1) := by decide +kernel
theorem dX3_copyFrom_32 : decode cX3_copyFrom 32 = .ok (.getfield 22, 3) := by decide +kernel
theorem dX3_copyFrom_35 : decode cX3_copyFrom 35 = .ok (.iconst 0, 1) := by decide +kernel
theorem dX3_copyFrom_36 : decode cX3_copyFrom 36 = .ok (.bipush 6, 2) := by decide +kernel
theorem dX3_copyFrom_38 : decode cX3_copyFrom 38 = .ok (.invokestatic 36, 3) := by decide +kernel
theorem dX3_copyFrom_41 : decode cX3_copyFrom 41 = .ok (.aload_n 0, 1) := by decide +kernel
theorem dX3_copyFrom_42 : decode cX3_copyFrom 42 = .ok (.aload_n 1, 1) := by decide +kernel
theorem dX3_copyFrom_43 : decode cX3_copyFrom 43 = .ok (.getfield 25, 3) := by decide +kernel
theorem dX3_copyFrom_46 : decode cX3_copyFrom 46 = .ok (.putfield 25, 3) := by decide +kernel
theorem dX3_copyFrom_49 : decode cX3_copyFrom 49 = .ok (.aload_n 0, 1) := by decide +kernel
theorem dX3_copyFrom_50 : decode cX3_copyFrom 50 = .ok (.aload_n 1, 1) := by decide +kernel
theorem dX3_copyFrom_51 : decode cX3_copyFrom 51 = .ok (.getfield 29, 3) := by decide +kernel
theorem dX3_copyFrom_54 : decode cX3_copyFrom 54 = .ok (.putfield 29, 3) := by decide +kernel
theorem dX3_copyFrom_57 : decode cX3_copyFrom 57 = .ok (.return_, 1) := by decide +kernel
theorem dX3_count_0 : decode cX3_count 0 = .ok (.aload_n 0, 1) := by decide +kernel
theorem dX3_count_1 : decode cX3_count 1 = .ok (.getfield 18, 3) := by decide +kernel
theorem dX3_count_4 : decode cX3_count 4 = .ok (.iload_n 1, 1) := by decide +kernel
theorem dX3_count_5 : decode cX3_count 5 = .ok (.iload_n 2, 1) := by decide +kernel
theorem dX3_count_6 : decode cX3_count 6 = .ok (.iadd, 1) := by decide +kernel
theorem dX3_count_7 : decode cX3_count 7 = .ok (.iaload, 1) := by decide +kernel
theorem dX3_count_8 : decode cX3_count 8 = .ok (.ireturn, 1) := by decide +kernel
theorem dX3_sum_0 : decode cX3_sum 0 = .ok (.iconst 0, 1) := by decide +kernel
theorem dX3_sum_1 : decode cX3_sum 1 = .ok (.istore_n 2, 1) := by decide +kernel
theorem dX3_sum_2 : decode cX3_sum 2 = .ok (.iconst 0, 1) := by decide +kernel
theorem dX3_sum_3 : decode cX3_sum 3 = .ok (.istore_n 3, 1) := by decide +kernel
theorem dX3_sum_4 : decode cX3_sum 4 = .ok (.iload_n 3, 1) := by decide +kernel
theorem dX3_sum_5 : decode cX3_sum 5 = .ok (.bipush 6, 2) := by decide +kernel
theorem dX3_sum_7 : decode cX3_sum 7 = .ok (.if_icmp .ge 20, 3) := by decide +kernel
theorem dX3_sum_10 : decode cX3_sum 10 = .ok (.iload_n 2, 1) := by decide +kernel
theorem dX3_sum_11 : decode cX3_sum 11 = .ok (.aload_n 0, 1) := by decide +kernel
theorem dX3_sum_12 : decode cX3_sum 12 = .ok (.getfield 18, 3) := by decide +kernel
theorem dX3_sum_15 : decode cX3_sum 15 = .ok (.iload_n 1, 1) := by decide +kernel
theorem dX3_sum_16 : decode cX3_sum 16 = .ok (.iload_n 3, 1) := by decide +kernel
theorem dX3_sum_17 : decode cX3_sum 17 = .ok (.iadd, 1) := by decide +kernel
theorem dX3_sum_18 : decode cX3_sum 18 = .ok (.iaload, 1) := by decide +kernel
theorem dX3_sum_19 : decode cX3_sum 19 = .ok (.iadd, 1) := by decide +kernel
theorem dX3_sum_20 : decode cX3_sum 20 = .ok (.istore_n 2, 1) := by decide +kernel
theorem dX3_sum_21 : decode cX3_sum 21 = .ok (.iinc 3 1, 3) := by decide +kernel
theorem dX3_sum_24 : decode cX3_sum 24 = .ok (.goto (-20), 3) := by decide +kernel
theorem dX3_sum_27 : decode cX3_sum 27 = .ok (.iload_n 2, 1) := by decide +kernel
theorem dX3_sum_28 : decode cX3_sum 28 = .ok (.ireturn, 1) := by decide +kernel
set_option maxRecDepth 20000 in
theorem ggX3_present_X1_countAt : GoodIn wsX3_present wsX1_countAt := goodIn_r _ [6, 7, 8, 9, 5, 10, 11, 17] (by decide +kernel) (by decide +kernel)
set_option maxRecDepth 20000 in
theorem gX3_present_X1_countAt : GoodIn wsX3_present (wsV RX3 42 RX1 yX1_countAt wsX1_countAt) := goodIn_app (goodIn_of _ (by decide +kernel)) ggX3_present_X1_countAt
theorem dX3_present_0 : decode cX3_present 0 = .ok (.bipush 6, 2) := by decide +kernel
theorem dX3_present_2 : decode cX3_present 2 = .ok (.aload_n 0, 1) := by decide +kernel
theorem dX3_present_3 : decode cX3_present 3 = .ok (.getfield 14, 3) := by decide +kernel
theorem dX3_present_6 : decode cX3_present 6 = .ok (.iconst 0, 1) := by decide +kernel
theorem dX3_present_7 : decode cX3_present 7 = .ok (.invokevirtual 42, 3) := by decide +kernel
theorem dX3_present_10 : decode cX3_present 10 = .ok (.isub, 1) := by decide +kernel
theorem dX3_present_11 : decode cX3_present 11 = .ok (.ireturn, 1) := by decide +kernel
theorem dX3_visitorAt_0 : decode cX3_visitorAt 0 = .ok (.iload_n 1, 1) := by decide +kernel
theorem dX3_visitorAt_1 : decode cX3_visitorAt 1 = .ok (.ifCond .lt 20, 3) := by decide +kernel
theorem dX3_visitorAt_4 : decode cX3_visitorAt 4 = .ok (.iload_n 1, 1) := by decide +kernel
theorem dX3_visitorAt_5 : decode cX3_visitorAt 5 = .ok (.aload_n 0, 1) := by decide +kernel
theorem dX3_visitorAt_6 : decode cX3_visitorAt 6 = .ok (.getfield 25, 3) := by decide +kernel
theorem dX3_visitorAt_9 : decode cX3_visitorAt 9 = .ok (.if_icmp .ge 12, 3) := by decide +kernel
theorem dX3_visitorAt_12 : decode cX3_visitorAt 12 = .ok (.aload_n 0, 1) := by decide +kernel
theorem dX3_visitorAt_13 : decode cX3_visitorAt 13 = .ok (.getfield 22, 3) := by decide +kernel
theorem dX3_visitorAt_16 : decode cX3_visitorAt 16 = .ok (.iload_n 1, 1) := by decide +kernel
theorem dX3_visitorAt_17 : decode cX3_visitorAt 17 = .ok (.iaload, 1) := by decide +kernel
theorem dX3_visitorAt_18 : decode cX3_visitorAt 18 = .ok (.goto 5, 3) := by decide +kernel
theorem dX3_visitorAt_21 : decode cX3_visitorAt 21 = .ok (.bipush (-5), 2) := by decide +kernel
theorem dX3_visitorAt_23 : decode cX3_visitorAt 23 = .ok (.ireturn, 1) := by decide +kernel
theorem dX3_placeOf_0 : decode cX3_placeOf 0 = .ok (.iconst 0, 1) := by decide +kernel
theorem dX3_placeOf_1 : decode cX3_placeOf 1 = .ok (.istore_n 2, 1) := by decide +kernel
theorem dX3_placeOf_2 : decode cX3_placeOf 2 = .ok (.iload_n 2, 1) := by decide +kernel
theorem dX3_placeOf_3 : decode cX3_placeOf 3 = .ok (.aload_n 0, 1) := by decide +kernel
theorem dX3_placeOf_4 : decode cX3_placeOf 4 = .ok (.getfield 25, 3) := by decide +kernel
theorem dX3_placeOf_7 : decode cX3_placeOf 7 = .ok (.if_icmp .ge 21, 3) := by decide +kernel
theorem dX3_placeOf_10 : decode cX3_placeOf 10 = .ok (.aload_n 0, 1) := by decide +kernel
theorem dX3_placeOf_11 : decode cX3_placeOf 11 = .ok (.getfield 22, 3) := by decide +kernel
theorem dX3_placeOf_14 : decode cX3_placeOf 14 = .ok (.iload_n 2, 1) := by decide +kernel
theorem dX3_placeOf_15 : decode cX3_placeOf 15 = .ok (.iaload, 1) := by decide +kernel
theorem dX3_placeOf_16 : decode cX3_placeOf 16 = .ok (.iload_n 1, 1) := by decide +kernel
theorem dX3_placeOf_17 : decode cX3_placeOf 17 = .ok (.if_icmp .ne 5, 3) := by decide +kernel
theorem dX3_placeOf_20 : decode cX3_placeOf 20 = .ok (.iload_n 2, 1) := by decide +kernel
theorem dX3_placeOf_21 : decode cX3_placeOf 21 = .ok (.ireturn, 1) := by decide +kernel
theorem dX3_placeOf_22 : decode cX3_placeOf 22 = .ok (.iinc 2 1, 3) := by decide +kernel
theorem dX3_placeOf_25 : decode cX3_placeOf 25 = .ok (.goto (-23), 3) := by decide +kernel
theorem dX3_placeOf_28 : decode cX3_placeOf 28 = .ok (.bipush (-5), 2) := by decide +kernel
theorem dX3_placeOf_30 : decode cX3_placeOf 30 = .ok (.ireturn, 1) := by decide +kernel
set_option maxRecDepth 20000 in
theorem ggX3_advance_X1_queues : GoodIn wsX3_advance wsX1_queues := goodIn_r _ [7, 8, 9, 10, 6, 11, 12, 13, 14, 15, 16, 97] (by decide +kernel) (by decide +kernel)
set_option maxRecDepth 20000 in
theorem gX3_advance_X1_queues : GoodIn wsX3_advance (wsV RX3 46 RX1 yX1_queues wsX1_queues) := goodIn_app (goodIn_of _ (by decide +kernel)) ggX3_advance_X1_queues
set_option maxRecDepth 20000 in
theorem ggX3_advance_X1_touches : GoodIn wsX3_advance wsX1_touches := goodIn_r _ [20, 21, 8, 9, 10, 6, 11, 12, 13, 14, 15, 16, 97] (by decide +kernel) (by decide +kernel)
set_option maxRecDepth 20000 in
theorem gX3_advance_X1_touches : GoodIn wsX3_advance (wsV RX3 50 RX1 yX1_touches wsX1_touches) := goodIn_app (goodIn_of _ (by decide +kernel)) ggX3_advance_X1_touches
set_option maxRecDepth 20000 in
theorem ggX3_advance_X1_waits : GoodIn wsX3_advance wsX1_waits := goodIn_r _ [25, 12, 13, 14, 15, 6, 16, 26, 27, 28, 29, 8, 9, 10, 11, 30, 31, 32, 33, 34, 35, 36, 97] (by decide +kernel) (by decide +kernel)
set_option maxRecDepth 20000 in
theorem gX3_advance_X1_waits : GoodIn wsX3_advance (wsV RX3 53 RX1 yX1_waits wsX1_waits) := goodIn_app (goodIn_of _ (by decide +kernel)) ggX3_advance_X1_waits
set_option maxRecDepth 20000 in
theorem ggX3_advance_X1_advance : GoodIn wsX3_advance wsX1_advance := goodIn_r _ [40, 41, 23, 24, 6, 25, 12, 13, 14, 15, 16, 26, 27, 28, 29, 8, 9, 10, 11, 30, 31, 32, 33, 34, 35, 36, 42, 43, 44, 45, 46, 47, 48, 49, 50, 51, 52, 53, 54, 55, 56, 57, 58, 59, 60, 61, 62, 63, 64, 65, 66, 67, 68, 69, 70, 71, 72, 73, 74, 75, 76, 77, 78, 79, 97] (by decide +kernel) (by decide +kernel)
set_option maxRecDepth 20000 in
theorem gX3_advance_X1_advance : GoodIn wsX3_advance (wsV RX3 56 RX1 yX1_advance wsX1_advance) := goodIn_app (goodIn_of _ (by decide +kernel)) ggX3_advance_X1_advance
set_option maxRecDepth 20000 in
theorem ggX3_advance_X1_stage : GoodIn wsX3_advance wsX1_stage := goodIn_r _ [16, 12, 97] (by decide +kernel) (by decide +kernel)
set_option maxRecDepth 20000 in
theorem gX3_advance_X1_stage : GoodIn wsX3_advance (wsV RX3 60 RX1 yX1_stage wsX1_stage) := goodIn_app (goodIn_of _ (by decide +kernel)) ggX3_advance_X1_stage
set_option maxRecDepth 20000 in
theorem ggX3_advance_X3_joinLine : GoodIn wsX3_advance wsX3_joinLine := goodIn_r _ [85, 86, 87, 92, 93, 94, 95, 96] (by decide +kernel) (by decide +kernel)
set_option maxRecDepth 20000 in
theorem gX3_advance_X3_joinLine : GoodIn wsX3_advance (wsV RX3 63 RX3 yX3_joinLine wsX3_joinLine) := goodIn_app (goodIn_of _ (by decide +kernel)) ggX3_advance_X3_joinLine
set_option maxRecDepth 20000 in
theorem ggX3_advance_X3_leaveLine : GoodIn wsX3_advance wsX3_leaveLine := goodIn_r _ [91, 86, 87, 92, 93, 94, 95, 96] (by decide +kernel) (by decide +kernel)
set_option maxRecDepth 20000 in
theorem gX3_advance_X3_leaveLine : GoodIn wsX3_advance (wsV RX3 66 RX3 yX3_leaveLine wsX3_leaveLine) := goodIn_app (goodIn_of _ (by decide +kernel)) ggX3_advance_X3_leaveLine
theorem dX3_advance_0 : decode cX3_advance 0 = .ok (.aload_n 0, 1) := by decide +kernel
theorem dX3_advance_1 : decode cX3_advance 1 = .ok (.getfield 14, 3) := by decide +kernel
theorem dX3_advance_4 : decode cX3_advance 4 = .ok (.iload_n 1, 1) := by decide +kernel
theorem dX3_advance_5 : decode cX3_advance 5 = .ok (.invokevirtual 46, 3) := by decide +kernel
theorem dX3_advance_8 : decode cX3_advance 8 = .ok (.istore_n 2, 1) := by decide +kernel
theorem dX3_advance_9 : decode cX3_advance 9 = .ok (.aload_n 0, 1) := by decide +kernel
theorem dX3_advance_10 : decode cX3_advance 10 = .ok (.getfield 18, 3) := by decide +kernel
theorem dX3_advance_13 : decode cX3_advance 13 = .ok (.iconst 0, 1) := by decide +kernel
theorem dX3_advance_14 : decode cX3_advance 14 = .ok (.iload_n 1, 1) := by decide +kernel
theorem dX3_advance_15 : decode cX3_advance 15 = .ok (.iadd, 1) := by decide +kernel
theorem dX3_advance_16 : decode cX3_advance 16 = .ok (.dup2, 1) := by decide +kernel
theorem dX3_advance_17 : decode cX3_advance 17 = .ok (.iaload, 1) := by decide +kernel
theorem dX3_advance_18 : decode cX3_advance 18 = .ok (.iconst 1, 1) := by decide +kernel
theorem dX3_advance_19 : decode cX3_advance 19 = .ok (.iadd, 1) := by decide +kernel
theorem dX3_advance_20 : decode cX3_advance 20 = .ok (.iastore, 1) := by decide +kernel
theorem dX3_advance_21 : decode cX3_advance 21 = .ok (.aload_n 0, 1) := by decide +kernel
theorem dX3_advance_22 : decode cX3_advance 22 = .ok (.getfield 18, 3) := by decide +kernel
theorem dX3_advance_25 : decode cX3_advance 25 = .ok (.bipush 18, 2) := by decide +kernel
theorem dX3_advance_27 : decode cX3_advance 27 = .ok (.iload_n 1, 1) := by decide +kernel
theorem dX3_advance_28 : decode cX3_advance 28 = .ok (.iadd, 1) := by decide +kernel
theorem dX3_advance_29 : decode cX3_advance 29 = .ok (.dup2, 1) := by decide +kernel
theorem dX3_advance_30 : decode cX3_advance 30 = .ok (.iaload, 1) := by decide +kernel
theorem dX3_advance_31 : decode cX3_advance 31 = .ok (.aload_n 0, 1) := by decide +kernel
theorem dX3_advance_32 : decode cX3_advance 32 = .ok (.getfield 14, 3) := by decide +kernel
theorem dX3_advance_35 : decode cX3_advance 35 = .ok (.iload_n 1, 1) := by decide +kernel
theorem dX3_advance_36 : decode cX3_advance 36 = .ok (.invokevirtual 50, 3) := by decide +kernel
theorem dX3_advance_39 : decode cX3_advance 39 = .ok (.iadd, 1) := by decide +kernel
theorem dX3_advance_40 : decode cX3_advance 40 = .ok (.iastore, 1) := by decide +kernel
theorem dX3_advance_41 : decode cX3_advance 41 = .ok (.aload_n 0, 1) := by decide +kernel
theorem dX3_advance_42 : decode cX3_advance 42 = .ok (.getfield 14, 3) := by decide +kernel
theorem dX3_advance_45 : decode cX3_advance 45 = .ok (.iload_n 1, 1) := by decide +kernel
theorem dX3_advance_46 : decode cX3_advance 46 = .ok (.invokevirtual 53, 3) := by decide +kernel
theorem dX3_advance_49 : decode cX3_advance 49 = .ok (.ifCond .eq 16, 3) := by decide +kernel
theorem dX3_advance_52 : decode cX3_advance 52 = .ok (.aload_n 0, 1) := by decide +kernel
theorem dX3_advance_53 : decode cX3_advance 53 = .ok (.getfield 18, 3) := by decide +kernel
theorem dX3_advance_56 : decode cX3_advance 56 = .ok (.bipush 6, 2) := by decide +kernel
theorem dX3_advance_58 : decode cX3_advance 58 = .ok (.iload_n 1, 1) := by decide +kernel
theorem dX3_advance_59 : decode cX3_advance 59 = .ok (.iadd, 1) := by decide +kernel
theorem dX3_advance_60 : decode cX3_advance 60 = .ok (.dup2, 1) := by decide +kernel
theorem dX3_advance_61 : decode cX3_advance 61 = .ok (.iaload, 1) := by decide +kernel
theorem dX3_advance_62 : decode cX3_advance 62 = .ok (.iconst 1, 1) := by decide +kernel
theorem dX3_advance_63 : decode cX3_advance 63 = .ok (.iadd, 1) := by decide +kernel
theorem dX3_advance_64 : decode cX3_advance 64 = .ok (.iastore, 1) := by decide +kernel
theorem dX3_advance_65 : decode cX3_advance 65 = .ok (.aload_n 0, 1) := by decide +kernel
theorem dX3_advance_66 : decode cX3_advance 66 = .ok (.getfield 14, 3) := by decide +kernel
theorem dX3_advance_69 : decode cX3_advance 69 = .ok (.iload_n 1, 1) := by decide +kernel
theorem dX3_advance_70 : decode cX3_advance 70 = .ok (.invokevirtual 56, 3) := by decide +kernel
theorem dX3_advance_73 : decode cX3_advance 73 = .ok (.aload_n 0, 1) := by decide +kernel
theorem dX3_advance_74 : decode cX3_advance 74 = .ok (.getfield 14, 3) := by decide +kernel
theorem dX3_advance_77 : decode cX3_advance 77 = .ok (.iload_n 1, 1) := by decide +kernel
theorem dX3_advance_78 : decode cX3_advance 78 = .ok (.invokevirtual 60, 3) := by decide +kernel
theorem dX3_advance_81 : decode cX3_advance 81 = .ok (.ifCond .ne 16, 3) := by decide +kernel
theorem dX3_advance_84 : decode cX3_advance 84 = .ok (.aload_n 0, 1) := by decide +kernel
theorem dX3_advance_85 : decode cX3_advance 85 = .ok (.getfield 18, 3) := by decide +kernel
theorem dX3_advance_88 : decode cX3_advance 88 = .ok (.bipush 12, 2) := by decide +kernel
theorem dX3_advance_90 : decode cX3_advance 90 = .ok (.iload_n 1, 1) := by decide +kernel
theorem dX3_advance_91 : decode cX3_advance 91 = .ok (.iadd, 1) := by decide +kernel
theorem dX3_advance_92 : decode cX3_advance 92 = .ok (.dup2, 1) := by decide +kernel
theorem dX3_advance_93 : decode cX3_advance 93 = .ok (.iaload, 1) := by decide +kernel
theorem dX3_advance_94 : decode cX3_advance 94 = .ok (.iconst 1, 1) := by decide +kernel
theorem dX3_advance_95 : decode cX3_advance 95 = .ok (.iadd, 1) := by decide +kernel
theorem dX3_advance_96 : decode cX3_advance 96 = .ok (.iastore, 1) := by decide +kernel
theorem dX3_advance_97 : decode cX3_advance 97 = .ok (.iload_n 2, 1) := by decide +kernel
theorem dX3_advance_98 : decode cX3_advance 98 = .ok (.ifCond .ne 22, 3) := by decide +kernel
theorem dX3_advance_101 : decode cX3_advance 101 = .ok (.aload_n 0, 1) := by decide +kernel
theorem dX3_advance_102 : decode cX3_advance 102 = .ok (.getfield 14, 3) := by decide +kernel
theorem dX3_advance_105 : decode cX3_advance 105 = .ok (.iload_n 1, 1) := by decide +kernel
theorem dX3_advance_106 : decode cX3_advance 106 = .ok (.invokevirtual 46, 3) := by decide +kernel
theorem dX3_advance_109 : decode cX3_advance 109 = .ok (.ifCond .eq 11, 3) := by decide +kernel
theorem dX3_advance_112 : decode cX3_advance 112 = .ok (.aload_n 0, 1) := by decide +kernel
theorem dX3_advance_113 : decode cX3_advance 113 = .ok (.iload_n 1, 1) := by decide +kernel
theorem dX3_advance_114 : decode cX3_advance 114 = .ok (.invokevirtual 63, 3) := by decide +kernel
theorem dX3_advance_117 : decode cX3_advance 117 = .ok (.goto 23, 3) := by decide +kernel
theorem dX3_advance_120 : decode cX3_advance 120 = .ok (.iload_n 2, 1) := by decide +kernel
theorem dX3_advance_121 : decode cX3_advance 121 = .ok (.ifCond .eq 19, 3) := by decide +kernel
theorem dX3_advance_124 : decode cX3_advance 124 = .ok (.aload_n 0, 1) := by decide +kernel
theorem dX3_advance_125 : decode cX3_advance 125 = .ok (.getfield 14, 3) := by decide +kernel
theorem dX3_advance_128 : decode cX3_advance 128 = .ok (.iload_n 1, 1) := by decide +kernel
theorem dX3_advance_129 : decode cX3_advance 129 = .ok (.invokevirtual 46, 3) := by decide +kernel
theorem dX3_advance_132 : decode cX3_advance 132 = .ok (.ifCond .ne 8, 3) := by decide +kernel
theorem dX3_advance_135 : decode cX3_advance 135 = .ok (.aload_n 0, 1) := by decide +kernel
theorem dX3_advance_136 : decode cX3_advance 136 = .ok (.iload_n 1, 1) := by decide +kernel
theorem dX3_advance_137 : decode cX3_advance 137 = .ok (.invokevirtual 66, 3) := by decide +kernel
theorem dX3_advance_140 : decode cX3_advance 140 = .ok (.return_, 1) := by decide +kernel
theorem dX3_joinLine_0 : decode cX3_joinLine 0 = .ok (.aload_n 0, 1) := by decide +kernel
theorem dX3_joinLine_1 : decode cX3_joinLine 1 = .ok (.getfield 25, 3) := by decide +kernel
theorem dX3_joinLine_4 : decode cX3_joinLine 4 = .ok (.bipush 6, 2) := by decide +kernel
theorem dX3_joinLine_6 : decode cX3_joinLine 6 = .ok (.if_icmp .ge 23, 3) := by decide +kernel
theorem dX3_joinLine_9 : decode cX3_joinLine 9 = .ok (.aload_n 0, 1) := by decide +kernel
theorem dX3_joinLine_10 : decode cX3_joinLine 10 = .ok (.getfield 22, 3) := by decide +kernel
theorem dX3_joinLine_13 : decode cX3_joinLine 13 = .ok (.aload_n 0, 1) := by decide +kernel
theorem dX3_joinLine_14 : decode cX3_joinLine 14 = .ok (.getfield 25, 3) := by decide +kernel
theorem dX3_joinLine_17 : decode cX3_joinLine 17 = .ok (.iload_n 1, 1) := by decide +kernel
theorem dX3_joinLine_18 : decode cX3_joinLine 18 = .ok (.iastore, 1) := by decide +kernel
theorem dX3_joinLine_19 : decode cX3_joinLine 19 = .ok (.aload_n 0, 1) := by decide +kernel
theorem dX3_joinLine_20 : decode cX3_joinLine 20 = .ok (.dup, 1) := by decide +kernel
theorem dX3_joinLine_21 : decode cX3_joinLine 21 = .ok (.getfield 25, 3) := by decide +kernel
theorem dX3_joinLine_24 : decode cX3_joinLine 24 = .ok (.iconst 1, 1) := by decide +kernel
theorem dX3_joinLine_25 : decode cX3_joinLine 25 = .ok (.iadd, 1) := by decide +kernel
theorem dX3_joinLine_26 : decode cX3_joinLine 26 = .ok (.putfield 25, 3) := by decide +kernel
theorem dX3_joinLine_29 : decode cX3_joinLine 29 = .ok (.return_, 1) := by decide +kernel
theorem dX3_leaveLine_0 : decode cX3_leaveLine 0 = .ok (.iconst 0, 1) := by decide +kernel
theorem dX3_leaveLine_1 : decode cX3_leaveLine 1 = .ok (.istore_n 2, 1) := by decide +kernel
theorem dX3_leaveLine_2 : decode cX3_leaveLine 2 = .ok (.iconst 0, 1) := by decide +kernel
theorem dX3_leaveLine_3 : decode cX3_leaveLine 3 = .ok (.istore_n 3, 1) := by decide +kernel
theorem dX3_leaveLine_4 : decode cX3_leaveLine 4 = .ok (.iload_n 3, 1) := by decide +kernel
theorem dX3_leaveLine_5 : decode cX3_leaveLine 5 = .ok (.aload_n 0, 1) := by decide +kernel
theorem dX3_leaveLine_6 : decode cX3_leaveLine 6 = .ok (.getfield 25, 3) := by decide +kernel
theorem dX3_leaveLine_9 : decode cX3_leaveLine 9 = .ok (.if_icmp .ge 34, 3) := by decide +kernel
theorem dX3_leaveLine_12 : decode cX3_leaveLine 12 = .ok (.aload_n 0, 1) := by decide +kernel
theorem dX3_leaveLine_13 : decode cX3_leaveLine 13 = .ok (.getfield 22, 3) := by decide +kernel
theorem dX3_leaveLine_16 : decode cX3_leaveLine 16 = .ok (.iload_n 3, 1) := by decide +kernel
theorem dX3_leaveLine_17 : decode cX3_leaveLine 17 = .ok (.iaload, 1) := by decide +kernel
theorem dX3_leaveLine_18 : decode cX3_leaveLine 18 = .ok (.iload_n 1, 1) := by decide +kernel
theorem dX3_leaveLine_19 : decode cX3_leaveLine 19 = .ok (.if_icmp .eq 18, 3) := by decide +kernel
theorem dX3_leaveLine_22 : decode cX3_leaveLine 22 = .ok (.aload_n 0, 1) := by decide +kernel
theorem dX3_leaveLine_23 : decode cX3_leaveLine 23 = .ok (.getfield 22, 3) := by decide +kernel
theorem dX3_leaveLine_26 : decode cX3_leaveLine 26 = .ok (.iload_n 2, 1) := by decide +kernel
theorem dX3_leaveLine_27 : decode cX3_leaveLine 27 = .ok (.aload_n 0, 1) := by decide +kernel
theorem dX3_leaveLine_28 : decode cX3_leaveLine 28 = .ok (.getfield 22, 3) := by decide +kernel
theorem dX3_leaveLine_31 : decode cX3_leaveLine 31 = .ok (.iload_n 3, 1) := by decide +kernel
theorem dX3_leaveLine_32 : decode cX3_leaveLine 32 = .ok (.iaload, 1) := by decide +kernel
theorem dX3_leaveLine_33 : decode cX3_leaveLine 33 = .ok (.iastore, 1) := by decide +kernel
theorem dX3_leaveLine_34 : decode cX3_leaveLine 34 = .ok (.iinc 2 1, 3) := by decide +kernel
theorem dX3_leaveLine_37 : decode cX3_leaveLine 37 = .ok (.iinc 3 1, 3) := by decide +kernel
theorem dX3_leaveLine_40 : decode cX3_leaveLine 40 = .ok (.goto (-36), 3) := by decide +kernel
theorem dX3_leaveLine_43 : decode cX3_leaveLine 43 = .ok (.aload_n 0, 1) := by decide +kernel
theorem dX3_leaveLine_44 : decode cX3_leaveLine 44 = .ok (.iload_n 2, 1) := by decide +kernel
theorem dX3_leaveLine_45 : decode cX3_leaveLine 45 = .ok (.putfield 25, 3) := by decide +kernel
theorem dX3_leaveLine_48 : decode cX3_leaveLine 48 = .ok (.return_, 1) := by decide +kernel
set_option maxRecDepth 20000 in
theorem ggX3_advanceFreely_X3_advance : GoodIn wsX3_advanceFreely wsX3_advance := goodIn_r _ [5, 6, 7, 8, 9, 10, 11, 12, 13, 14, 15, 16, 17, 18, 19, 20, 21, 22, 23, 24, 25, 26, 27, 28, 29, 30, 31, 32, 33, 34, 35, 36, 37, 38, 39, 40, 41, 42, 43, 44, 45, 46, 47, 48, 49, 50, 51, 52, 53, 54, 55, 56, 57, 58, 59, 60, 61, 62, 63, 64, 65, 66, 67, 68, 69, 70, 71, 72, 73, 74, 75, 76, 77, 78, 79, 80, 81, 82, 83, 84, 85, 86, 87, 88, 4, 89, 90, 91, 92, 93, 94, 95, 100, 101, 102, 103, 104, 105] (by decide +kernel) (by decide +kernel)
set_option maxRecDepth 20000 in
theorem gX3_advanceFreely_X3_advance : GoodIn wsX3_advanceFreely (wsV RX3 69 RX3 yX3_advance wsX3_advance) := goodIn_app (goodIn_of _ (by decide +kernel)) ggX3_advanceFreely_X3_advance
set_option maxRecDepth 20000 in
theorem ggX3_advanceFreely_X3_pauses : GoodIn wsX3_advanceFreely wsX3_pauses := goodIn_r _ [99, 6, 85, 19, 20, 11, 21, 17, 27, 28, 29, 30, 18, 31, 32, 33, 34, 13, 14, 15, 16, 35, 36, 37, 38, 39, 40, 41, 100, 101, 102, 103, 104, 105] (by decide +kernel) (by decide +kernel)
set_option maxRecDepth 20000 in
theorem gX3_advanceFreely_X3_pauses : GoodIn wsX3_advanceFreely (wsV RX3 70 RX3 yX3_pauses wsX3_pauses) := goodIn_app (goodIn_of _ (by decide +kernel)) ggX3_advanceFreely_X3_pauses
theorem dX3_advanceFreely_0 : decode cX3_advanceFreely 0 = .ok (.iconst 0, 1) := by decide +kernel
theorem dX3_advanceFreely_1 : decode cX3_advanceFreely 1 = .ok (.istore_n 2, 1) := by decide +kernel
theorem dX3_advanceFreely_2 : decode cX3_advanceFreely 2 = .ok (.aload_n 0, 1) := by decide +kernel
theorem dX3_advanceFreely_3 : decode cX3_advanceFreely 3 = .ok (.iload_n 1, 1) := by decide +kernel
theorem dX3_advanceFreely_4 : decode cX3_advanceFreely 4 = .ok (.invokevirtual 69, 3) := by decide +kernel
theorem dX3_advanceFreely_7 : decode cX3_advanceFreely 7 = .ok (.iinc 2 1, 3) := by decide +kernel
theorem dX3_advanceFreely_10 : decode cX3_advanceFreely 10 = .ok (.iload_n 2, 1) := by decide +kernel
theorem dX3_advanceFreely_11 : decode cX3_advanceFreely 11 = .ok (.sipush 1000, 3) := by decide +kernel
theorem dX3_advanceFreely_14 : decode cX3_advanceFreely 14 = .ok (.if_icmp .ge 11, 3) := by decide +kernel
theorem dX3_advanceFreely_17 : decode cX3_advanceFreely 17 = .ok (.aload_n 0, 1) := by decide +kernel
theorem dX3_advanceFreely_18 : decode cX3_advanceFreely 18 = .ok (.iload_n 1, 1) := by decide +kernel
theorem dX3_advanceFreely_19 : decode cX3_advanceFreely 19 = .ok (.invokevirtual 70, 3) := by decide +kernel
theorem dX3_advanceFreely_22 : decode cX3_advanceFreely 22 = .ok (.ifCond .eq (-20), 3) := by decide +kernel
theorem dX3_advanceFreely_25 : decode cX3_advanceFreely 25 = .ok (.iload_n 2, 1) := by decide +kernel
theorem dX3_advanceFreely_26 : decode cX3_advanceFreely 26 = .ok (.ireturn, 1) := by decide +kernel
set_option maxRecDepth 20000 in
theorem ggX3_pauses_X1_stage : GoodIn wsX3_pauses wsX1_stage := goodIn_r _ [6, 7, 33] (by decide +kernel) (by decide +kernel)
set_option maxRecDepth 20000 in
theorem gX3_pauses_X1_stage : GoodIn wsX3_pauses (wsV RX3 60 RX1 yX1_stage wsX1_stage) := goodIn_app (goodIn_of _ (by decide +kernel)) ggX3_pauses_X1_stage
set_option maxRecDepth 20000 in
theorem ggX3_pauses_X1_waits : GoodIn wsX3_pauses wsX1_waits := goodIn_r _ [11, 7, 12, 3, 4, 5, 6, 13, 14, 15, 16, 17, 18, 19, 20, 21, 22, 23, 24, 25, 26, 27, 33] (by decide +kernel) (by decide +kernel)
set_option maxRecDepth 20000 in
theorem gX3_pauses_X1_waits : GoodIn wsX3_pauses (wsV RX3 53 RX1 yX1_waits wsX1_waits) := goodIn_app (goodIn_of _ (by decide +kernel)) ggX3_pauses_X1_waits
theorem dX3_pauses_0 : decode cX3_pauses 0 = .ok (.aload_n 0, 1) := by decide +kernel
theorem dX3_pauses_1 : decode cX3_pauses 1 = .ok (.getfield 14, 3) := by decide +kernel
theorem dX3_pauses_4 : decode cX3_pauses 4 = .ok (.iload_n 1, 1) := by decide +kernel
theorem dX3_pauses_5 : decode cX3_pauses 5 = .ok (.invokevirtual 60, 3) := by decide +kernel
theorem dX3_pauses_8 : decode cX3_pauses 8 = .ok (.istore_n 2, 1) := by decide +kernel
theorem dX3_pauses_9 : decode cX3_pauses 9 = .ok (.iload_n 2, 1) := by decide +kernel
theorem dX3_pauses_10 : decode cX3_pauses 10 = .ok (.iconst 4, 1) := by decide +kernel
theorem dX3_pauses_11 : decode cX3_pauses 11 = .ok (.if_icmp .eq 18, 3) := by decide +kernel
theorem dX3_pauses_14 : decode cX3_pauses 14 = .ok (.iload_n 2, 1) := by decide +kernel
theorem dX3_pauses_15 : decode cX3_pauses 15 = .ok (.ifCond .eq 14, 3) := by decide +kernel
theorem dX3_pauses_18 : decode cX3_pauses 18 = .ok (.aload_n 0, 1) := by decide +kernel
theorem dX3_pauses_19 : decode cX3_pauses 19 = .ok (.getfield 14, 3) := by decide +kernel
theorem dX3_pauses_22 : decode cX3_pauses 22 = .ok (.iload_n 1, 1) := by decide +kernel
theorem dX3_pauses_23 : decode cX3_pauses 23 = .ok (.invokevirtual 53, 3) := by decide +kernel
theorem dX3_pauses_26 : decode cX3_pauses 26 = .ok (.ifCond .eq 7, 3) := by decide +kernel
theorem dX3_pauses_29 : decode cX3_pauses 29 = .ok (.iconst 1, 1) := by decide +kernel
theorem dX3_pauses_30 : decode cX3_pauses 30 = .ok (.goto 4, 3) := by decide +kernel
theorem dX3_pauses_33 : decode cX3_pauses 33 = .ok (.iconst 0, 1) := by decide +kernel
theorem dX3_pauses_34 : decode cX3_pauses 34 = .ok (.ireturn, 1) := by decide +kernel
set_option maxRecDepth 20000 in
theorem ggX3_advanceAll_X3_present : GoodIn wsX3_advanceAll wsX3_present := goodIn_r _ [7, 2, 8, 9, 10, 11, 12, 13, 14, 15, 16, 17, 105, 106, 107, 108, 109, 110] (by decide +kernel) (by decide +kernel)
set_option maxRecDepth 20000 in
theorem gX3_advanceAll_X3_present : GoodIn wsX3_advanceAll (wsV RX3 74 RX3 yX3_present wsX3_present) := goodIn_app (goodIn_of _ (by decide +kernel)) ggX3_advanceAll_X3_present
set_option maxRecDepth 20000 in
theorem ggX3_advanceAll_X1_stage : GoodIn wsX3_advanceAll wsX1_stage := goodIn_r _ [16, 17, 110] (by decide +kernel) (by decide +kernel)
set_option maxRecDepth 20000 in
theorem gX3_advanceAll_X1_stage : GoodIn wsX3_advanceAll (wsV RX3 60 RX1 yX1_stage wsX1_stage) := goodIn_app (goodIn_of _ (by decide +kernel)) ggX3_advanceAll_X1_stage
set_option maxRecDepth 20000 in
theorem ggX3_advanceAll_X3_advance : GoodIn wsX3_advanceAll wsX3_advance := goodIn_r _ [22, 2, 23, 24, 25, 26, 11, 27, 28, 29, 30, 31, 17, 13, 14, 15, 16, 32, 33, 34, 35, 36, 37, 38, 39, 40, 41, 42, 43, 44, 45, 46, 47, 48, 49, 50, 51, 52, 53, 54, 55, 56, 57, 58, 59, 60, 61, 62, 63, 64, 65, 66, 67, 68, 69, 70, 71, 72, 73, 74, 75, 76, 77, 78, 79, 80, 81, 82, 83, 84, 85, 86, 87, 88, 89, 90, 91, 92, 93, 94, 18, 95, 96, 97, 6, 98, 99, 100, 101, 102, 103, 104, 105, 106, 107, 108, 109, 110] (by decide +kernel) (by decide +kernel)
set_option maxRecDepth 20000 in
theorem gX3_advanceAll_X3_advance : GoodIn wsX3_advanceAll (wsV RX3 69 RX3 yX3_advance wsX3_advance) := goodIn_app (goodIn_of _ (by decide +kernel)) ggX3_advanceAll_X3_advance
theorem dX3_advanceAll_0 : decode cX3_advanceAll 0 = .ok (.iconst 0, 1) := by decide +kernel
theorem dX3_advanceAll_1 : decode cX3_advanceAll 1 = .ok (.istore_n 1, 1) := by decide +kernel
theorem dX3_advanceAll_2 : decode cX3_advanceAll 2 = .ok (.iconst 0, 1) := by decide +kernel
theorem dX3_advanceAll_3 : decode cX3_advanceAll 3 = .ok (.istore_n 2, 1) := by decide +kernel
theorem dX3_advanceAll_4 : decode cX3_advanceAll 4 = .ok (.iload_n 2, 1) := by decide +kernel
theorem dX3_advanceAll_5 : decode cX3_advanceAll 5 = .ok (.ldc 73, 2) := by decide +kernel
theorem dX3_advanceAll_7 : decode cX3_advanceAll 7 = .ok (.if_icmp .ge 49, 3) := by decide +kernel
theorem dX3_advanceAll_10 : decode cX3_advanceAll 10 = .ok (.aload_n 0, 1) := by decide +kernel
theorem dX3_advanceAll_11 : decode cX3_advanceAll 11 = .ok (.invokevirtual 74, 3) := by decide +kernel
theorem dX3_advanceAll_14 : decode cX3_advanceAll 14 = .ok (.ifCond .le 42, 3) := by decide +kernel
theorem dX3_advanceAll_17 : decode cX3_advanceAll 17 = .ok (.iconst 0, 1) := by decide +kernel
theorem dX3_advanceAll_18 : decode cX3_advanceAll 18 = .ok (.istore_n 3, 1) := by decide +kernel
theorem dX3_advanceAll_19 : decode cX3_advanceAll 19 = .ok (.iload_n 3, 1) := by decide +kernel
theorem dX3_advanceAll_20 : decode cX3_advanceAll 20 = .ok (.bipush 6, 2) := by decide +kernel
theorem dX3_advanceAll_22 : decode cX3_advanceAll 22 = .ok (.if_icmp .ge 28, 3) := by decide +kernel
theorem dX3_advanceAll_25 : decode cX3_advanceAll 25 = .ok (.aload_n 0, 1) := by decide +kernel
theorem dX3_advanceAll_26 : decode cX3_advanceAll 26 = .ok (.getfield 14, 3) := by decide +kernel
theorem dX3_advanceAll_29 : decode cX3_advanceAll 29 = .ok (.iload_n 3, 1) := by decide +kernel
theorem dX3_advanceAll_30 : decode cX3_advanceAll 30 = .ok (.invokevirtual 60, 3) := by decide +kernel
theorem dX3_advanceAll_33 : decode cX3_advanceAll 33 = .ok (.ifCond .eq 11, 3) := by decide +kernel
theorem dX3_advanceAll_36 : decode cX3_advanceAll 36 = .ok (.aload_n 0, 1) := by decide +kernel
theorem dX3_advanceAll_37 : decode cX3_advanceAll 37 = .ok (.iload_n 3, 1) := by decide +kernel
theorem dX3_advanceAll_38 : decode cX3_advanceAll 38 = .ok (.invokevirtual 69, 3) := by decide +kernel
theorem dX3_advanceAll_41 : decode cX3_advanceAll 41 = .ok (.iinc 1 1, 3) := by decide +kernel
theorem dX3_advanceAll_44 : decode cX3_advanceAll 44 = .ok (.iinc 3 1, 3) := by decide +kernel
theorem dX3_advanceAll_47 : decode cX3_advanceAll 47 = .ok (.goto (-28), 3) := by decide +kernel
theorem dX3_advanceAll_50 : decode cX3_advanceAll 50 = .ok (.iinc 2 1, 3) := by decide +kernel
theorem dX3_advanceAll_53 : decode cX3_advanceAll 53 = .ok (.goto (-49), 3) := by decide +kernel
theorem dX3_advanceAll_56 : decode cX3_advanceAll 56 = .ok (.iload_n 1, 1) := by decide +kernel
theorem dX3_advanceAll_57 : decode cX3_advanceAll 57 = .ok (.ireturn, 1) := by decide +kernel
set_option maxRecDepth 20000 in
theorem ggX3_lot_J6_bitCount_0f7a4 : GoodIn wsX3_lot wsJ6_bitCount_0f7a4 := goodIn_r _ [9, 10, 11, 12] (by decide +kernel) (by decide +kernel)
set_option maxRecDepth 20000 in
theorem gX3_lot_J6_bitCount_0f7a4 : GoodIn wsX3_lot (va_wsS RX3 84 yJ6_bitCount_0f7a4 wsJ6_bitCount_0f7a4) := goodIn_app (goodIn_of _ (by decide +kernel)) ggX3_lot_J6_bitCount_0f7a4
theorem dX3_lot_0 : decode cX3_lot 0 = .ok (.aload_n 0, 1) := by decide +kernel
theorem dX3_lot_1 : decode cX3_lot 1 = .ok (.aload_n 0, 1) := by decide +kernel
theorem dX3_lot_2 : decode cX3_lot 2 = .ok (.getfield 29, 3) := by decide +kernel
theorem dX3_lot_5 : decode cX3_lot 5 = .ok (.i2l, 1) := by decide +kernel
theorem dX3_lot_6 : decode cX3_lot 6 = .ok (.ldc2_w 78, 3) := by decide +kernel
theorem dX3_lot_9 : decode cX3_lot 9 = .ok (.lmul, 1) := by decide +kernel
theorem dX3_lot_10 : decode cX3_lot 10 = .ok (.ldc2_w 80, 3) := by decide +kernel
theorem dX3_lot_13 : decode cX3_lot 13 = .ok (.ladd, 1) := by decide +kernel
theorem dX3_lot_14 : decode cX3_lot 14 = .ok (.ldc2_w 82, 3) := by decide +kernel
theorem dX3_lot_17 : decode cX3_lot 17 = .ok (.lrem, 1) := by decide +kernel
theorem dX3_lot_18 : decode cX3_lot 18 = .ok (.l2i, 1) := by decide +kernel
theorem dX3_lot_19 : decode cX3_lot 19 = .ok (.putfield 29, 3) := by decide +kernel
theorem dX3_lot_22 : decode cX3_lot 22 = .ok (.iload_n 1, 1) := by decide +kernel
theorem dX3_lot_23 : decode cX3_lot 23 = .ok (.invokestatic 84, 3) := by decide +kernel
theorem dX3_lot_26 : decode cX3_lot 26 = .ok (.istore_n 2, 1) := by decide +kernel
theorem dX3_lot_27 : decode cX3_lot 27 = .ok (.iload_n 2, 1) := by decide +kernel
theorem dX3_lot_28 : decode cX3_lot 28 = .ok (.ifCond .le 15, 3) := by decide +kernel
theorem dX3_lot_31 : decode cX3_lot 31 = .ok (.aload_n 0, 1) := by decide +kernel
theorem dX3_lot_32 : decode cX3_lot 32 = .ok (.getfield 29, 3) := by decide +kernel
theorem dX3_lot_35 : decode cX3_lot 35 = .ok (.ldc 89, 2) := by decide +kernel
theorem dX3_lot_37 : decode cX3_lot 37 = .ok (.idiv, 1) := by decide +kernel
theorem dX3_lot_38 : decode cX3_lot 38 = .ok (.iload_n 2, 1) := by decide +kernel
theorem dX3_lot_39 : decode cX3_lot 39 = .ok (.irem, 1) := by decide +kernel
theorem dX3_lot_40 : decode cX3_lot 40 = .ok (.goto 4, 3) := by decide +kernel
theorem dX3_lot_43 : decode cX3_lot 43 = .ok (.iconst 0, 1) := by decide +kernel
theorem dX3_lot_44 : decode cX3_lot 44 = .ok (.istore_n 3, 1) := by decide +kernel
theorem dX3_lot_45 : decode cX3_lot 45 = .ok (.iconst 0, 1) := by decide +kernel
theorem dX3_lot_46 : decode cX3_lot 46 = .ok (.istore 4, 2) := by decide +kernel
theorem dX3_lot_48 : decode cX3_lot 48 = .ok (.iconst 0, 1) := by decide +kernel
theorem dX3_lot_49 : decode cX3_lot 49 = .ok (.istore 5, 2) := by decide +kernel
theorem dX3_lot_51 : decode cX3_lot 51 = .ok (.iload 5, 2) := by decide +kernel
theorem dX3_lot_53 : decode cX3_lot 53 = .ok (.bipush 6, 2) := by decide +kernel
theorem dX3_lot_55 : decode cX3_lot 55 = .ok (.if_icmp .ge 32, 3) := by decide +kernel
theorem dX3_lot_58 : decode cX3_lot 58 = .ok (.iload_n 1, 1) := by decide +kernel
theorem dX3_lot_59 : decode cX3_lot 59 = .ok (.iconst 1, 1) := by decide +kernel
theorem dX3_lot_60 : decode cX3_lot 60 = .ok (.iload 5, 2) := by decide +kernel
theorem dX3_lot_62 : decode cX3_lot 62 = .ok (.ishl, 1) := by decide +kernel
theorem dX3_lot_63 : decode cX3_lot 63 = .ok (.iand, 1) := by decide +kernel
theorem dX3_lot_64 : decode cX3_lot 64 = .ok (.ifCond .eq 17, 3) := by decide +kernel
theorem dX3_lot_67 : decode cX3_lot 67 = .ok (.iload 5, 2) := by decide +kernel
theorem dX3_lot_69 : decode cX3_lot 69 = .ok (.istore 4, 2) := by decide +kernel
theorem dX3_lot_71 : decode cX3_lot 71 = .ok (.iload_n 3, 1) := by decide +kernel
theorem dX3_lot_72 : decode cX3_lot 72 = .ok (.ifCond .ne 6, 3) := by decide +kernel
theorem dX3_lot_75 : decode cX3_lot 75 = .ok (.iload 5, 2) := by decide +kernel
theorem dX3_lot_77 : decode cX3_lot 77 = .ok (.ireturn, 1) := by decide +kernel
theorem dX3_lot_78 : decode cX3_lot 78 = .ok (.iinc 3 (-1), 3) := by decide +kernel
theorem dX3_lot_81 : decode cX3_lot 81 = .ok (.iinc 5 1, 3) := by decide +kernel
theorem dX3_lot_84 : decode cX3_lot 84 = .ok (.goto (-33), 3) := by decide +kernel
theorem dX3_lot_87 : decode cX3_lot 87 = .ok (.iload 4, 2) := by decide +kernel
theorem dX3_lot_89 : decode cX3_lot 89 = .ok (.ireturn, 1) := by decide +kernel
set_option maxRecDepth 20000 in
theorem ggX4_init_X3_init : GoodIn wsX4_init wsX3_init := goodIn_r _ [26, 27, 2, 3, 28, 29, 30, 31, 32, 33, 34, 35, 36, 37, 38, 39, 40, 41, 42, 43, 44, 45, 90, 66, 67, 68, 69, 70] (by decide +kernel) (by decide +kernel)
set_option maxRecDepth 20000 in
theorem gX4_init_X3_init : GoodIn wsX4_init (wsX3_init) := ggX4_init_X3_init
set_option maxRecDepth 20000 in
theorem ggX4_init_X2_init : GoodIn wsX4_init wsX2_init := goodIn_r _ [48, 49, 2, 3, 50, 51, 32, 52, 53, 54, 55, 81, 82, 83, 84, 85] (by decide +kernel) (by decide +kernel)
set_option maxRecDepth 20000 in
theorem gX4_init_X2_init : GoodIn wsX4_init (wsX2_init) := ggX4_init_X2_init
set_option maxRecDepth 20000 in
theorem ggX4_init_X0_init : GoodIn wsX4_init wsX0_init := goodIn_r _ [58, 59, 2, 3, 60, 61, 32, 62, 29, 30, 63, 64, 65, 38, 39, 40, 41, 42, 43, 44, 45, 86, 87, 88, 89, 90] (by decide +kernel) (by decide +kernel)
set_option maxRecDepth 20000 in
theorem gX4_init_X0_init : GoodIn wsX4_init (wsX0_init) := ggX4_init_X0_init
theorem dX4_init_0 : decode cX4_init 0 = .ok (.aload_n 0, 1) := by decide +kernel
theorem dX4_init_1 : decode cX4_init 1 = .ok (.invokespecial 3, 3) := by decide +kernel
theorem dX4_init_4 : decode cX4_init 4 = .ok (.aload_n 0, 1) := by decide +kernel
theorem dX4_init_5 : decode cX4_init 5 = .ok (.new 9, 3) := by decide +kernel
theorem dX4_init_8 : decode cX4_init 8 = .ok (.dup, 1) := by decide +kernel
theorem dX4_init_9 : decode cX4_init 9 = .ok (.invokespecial 11, 3) := by decide +kernel
theorem dX4_init_12 : decode cX4_init 12 = .ok (.putfield 12, 3) := by decide +kernel
theorem dX4_init_15 : decode cX4_init 15 = .ok (.aload_n 0, 1) := by decide +kernel
theorem dX4_init_16 : decode cX4_init 16 = .ok (.new 9, 3) := by decide +kernel
theorem dX4_init_19 : decode cX4_init 19 = .ok (.dup, 1) := by decide +kernel
theorem dX4_init_20 : decode cX4_init 20 = .ok (.invokespecial 11, 3) := by decide +kernel
theorem dX4_init_23 : decode cX4_init 23 = .ok (.putfield 16, 3) := by decide +kernel
theorem dX4_init_26 : decode cX4_init 26 = .ok (.aload_n 0, 1) := by decide +kernel
theorem dX4_init_27 : decode cX4_init 27 = .ok (.new 9, 3) := by decide +kernel
theorem dX4_init_30 : decode cX4_init 30 = .ok (.dup, 1) := by decide +kernel
theorem dX4_init_31 : decode cX4_init 31 = .ok (.invokespecial 11, 3) := by decide +kernel
theorem dX4_init_34 : decode cX4_init 34 = .ok (.putfield 19, 3) := by decide +kernel
theorem dX4_init_37 : decode cX4_init 37 = .ok (.aload_n 0, 1) := by decide +kernel
theorem dX4_init_38 : decode cX4_init 38 = .ok (.iconst 0, 1) := by decide +kernel
theorem dX4_init_39 : decode cX4_init 39 = .ok (.putfield 22, 3) := by decide +kernel
theorem dX4_init_42 : decode cX4_init 42 = .ok (.aload_n 0, 1) := by decide +kernel
theorem dX4_init_43 : decode cX4_init 43 = .ok (.iconst 4, 1) := by decide +kernel
theorem dX4_init_44 : decode cX4_init 44 = .ok (.anewarray 9, 3) := by decide +kernel
theorem dX4_init_47 : decode cX4_init 47 = .ok (.putfield 26, 3) := by decide +kernel
theorem dX4_init_50 : decode cX4_init 50 = .ok (.iconst 0, 1) := by decide +kernel
theorem dX4_init_51 : decode cX4_init 51 = .ok (.istore_n 1, 1) := by decide +kernel
theorem dX4_init_52 : decode cX4_init 52 = .ok (.iload_n 1, 1) := by decide +kernel
theorem dX4_init_53 : decode cX4_init 53 = .ok (.iconst 4, 1) := by decide +kernel
theorem dX4_init_54 : decode cX4_init 54 = .ok (.if_icmp .ge 22, 3) := by decide +kernel
theorem dX4_init_57 : decode cX4_init 57 = .ok (.aload_n 0, 1) := by decide +kernel
theorem dX4_init_58 : decode cX4_init 58 = .ok (.getfield 26, 3) := by decide +kernel
theorem dX4_init_61 : decode cX4_init 61 = .ok (.iload_n 1, 1) := by decide +kernel
theorem dX4_init_62 : decode cX4_init 62 = .ok (.new 9, 3) := by decide +kernel
theorem dX4_init_65 : decode cX4_init 65 = .ok (.dup, 1) := by decide +kernel
theorem dX4_init_66 : decode cX4_init 66 = .ok (.invokespecial 11, 3) := by decide +kernel
theorem dX4_init_69 : decode cX4_init 69 = .ok (.aastore, 1) := by decide +kernel
theorem dX4_init_70 : decode cX4_init 70 = .ok (.iinc 1 1, 3) := by decide +kernel
theorem dX4_init_73 : decode cX4_init 73 = .ok (.goto (-21), 3) := by decide +kernel
theorem dX4_init_76 : decode cX4_init 76 = .ok (.aload_n 0, 1) := by decide +kernel
theorem dX4_init_77 : decode cX4_init 77 = .ok (.iconst 0, 1) := by decide +kernel
theorem dX4_init_78 : decode cX4_init 78 = .ok (.putfield 30, 3) := by decide +kernel
theorem dX4_init_81 : decode cX4_init 81 = .ok (.aload_n 0, 1) := by decide +kernel
theorem dX4_init_82 : decode cX4_init 82 = .ok (.bipush 60, 2) := by decide +kernel
theorem dX4_init_84 : decode cX4_init 84 = .ok (.newarray .char, 2) := by decide +kernel
theorem dX4_init_86 : decode cX4_init 86 = .ok (.putfield 34, 3) := by decide +kernel
theorem dX4_init_89 : decode cX4_init 89 = .ok (.aload_n 0, 1) := by decide +kernel
theorem dX4_init_90 : decode cX4_init 90 = .ok (.iconst 0, 1) := by decide +kernel
theorem dX4_init_91 : decode cX4_init 91 = .ok (.putfield 38, 3) := by decide +kernel
theorem dX4_init_94 : decode cX4_init 94 = .ok (.aload_n 0, 1) := by decide +kernel
theorem dX4_init_95 : decode cX4_init 95 = .ok (.new 41, 3) := by decide +kernel
theorem dX4_init_98 : decode cX4_init 98 = .ok (.dup, 1) := by decide +kernel
theorem dX4_init_99 : decode cX4_init 99 = .ok (.invokespecial 43, 3) := by decide +kernel
theorem dX4_init_102 : decode cX4_init 102 = .ok (.putfield 44, 3) := by decide +kernel
theorem dX4_init_105 : decode cX4_init 105 = .ok (.aload_n 0, 1) := by decide +kernel
theorem dX4_init_106 : decode cX4_init 106 = .ok (.new 48, 3) := by decide +kernel
theorem dX4_init_109 : decode cX4_init 109 = .ok (.dup, 1) := by decide +kernel
theorem dX4_init_110 : decode cX4_init 110 = .ok (.invokespecial 50, 3) := by decide +kernel
theorem dX4_init_113 : decode cX4_init 113 = .ok (.putfield 51, 3) := by decide +kernel
theorem dX4_init_116 : decode cX4_init 116 = .ok (.return_, 1) := by decide +kernel
set_option maxRecDepth 20000 in
theorem ggX4_build_X3_present : GoodIn wsX4_build wsX3_present := goodIn_r _ [6, 7, 8, 9, 10, 11, 12, 13, 14, 15, 16, 17, 64, 65, 66, 67, 68, 69] (by decide +kernel) (by decide +kernel)
set_option maxRecDepth 20000 in
theorem gX4_build_X3_present : GoodIn wsX4_build (wsV RX4 55 RX3 yX3_present wsX3_present) := goodIn_app (goodIn_of _ (by decide +kernel)) ggX4_build_X3_present
set_option maxRecDepth 20000 in
theorem ggX4_build_X4_remember : GoodIn wsX4_build wsX4_remember := goodIn_r _ [22, 23, 24, 1, 25, 26, 27, 21, 28, 29, 30, 31, 5, 32, 7, 33, 34, 35, 36, 37, 38, 39, 40, 41, 42, 43, 11, 44, 17, 45, 54, 55, 56, 57, 58, 59, 60, 61, 62, 63, 64, 65, 66, 67, 68, 69] (by decide +kernel) (by decide +kernel)
set_option maxRecDepth 20000 in
theorem gX4_build_X4_remember : GoodIn wsX4_build (wsV RX4 59 RX4 yX4_remember wsX4_remember) := goodIn_app (goodIn_of _ (by decide +kernel)) ggX4_build_X4_remember
set_option maxRecDepth 20000 in
theorem ggX4_build_X1_kind : GoodIn wsX4_build wsX1_kind := goodIn_r _ [49, 17, 69] (by decide +kernel) (by decide +kernel)
set_option maxRecDepth 20000 in
theorem gX4_build_X1_kind : GoodIn wsX4_build (wsV RX4 66 RX1 yX1_kind wsX1_kind) := goodIn_app (goodIn_of _ (by decide +kernel)) ggX4_build_X1_kind
set_option maxRecDepth 20000 in
theorem ggX4_build_X1_reset : GoodIn wsX4_build wsX1_reset := goodIn_r _ [53, 17, 69] (by decide +kernel) (by decide +kernel)
set_option maxRecDepth 20000 in
theorem gX4_build_X1_reset : GoodIn wsX4_build (wsV RX4 71 RX1 yX1_reset wsX1_reset) := goodIn_app (goodIn_of _ (by decide +kernel)) ggX4_build_X1_reset
theorem dX4_build_0 : decode cX4_build 0 = .ok (.iload_n 1, 1) := by decide +kernel
theorem dX4_build_1 : decode cX4_build 1 = .ok (.ifCond .lt 8, 3) := by decide +kernel
theorem dX4_build_4 : decode cX4_build 4 = .ok (.iload_n 1, 1) := by decide +kernel
theorem dX4_build_5 : decode cX4_build 5 = .ok (.iconst 4, 1) := by decide +kernel
theorem dX4_build_6 : decode cX4_build 6 = .ok (.if_icmp .lt 5, 3) := by decide +kernel
theorem dX4_build_9 : decode cX4_build 9 = .ok (.iconst (-1), 1) := by decide +kernel
theorem dX4_build_10 : decode cX4_build 10 = .ok (.ireturn, 1) := by decide +kernel
theorem dX4_build_11 : decode cX4_build 11 = .ok (.aload_n 0, 1) := by decide +kernel
theorem dX4_build_12 : decode cX4_build 12 = .ok (.getfield 12, 3) := by decide +kernel
theorem dX4_build_15 : decode cX4_build 15 = .ok (.invokevirtual 55, 3) := by decide +kernel
theorem dX4_build_18 : decode cX4_build 18 = .ok (.ifCond .le 6, 3) := by decide +kernel
theorem dX4_build_21 : decode cX4_build 21 = .ok (.bipush (-4), 2) := by decide +kernel
theorem dX4_build_23 : decode cX4_build 23 = .ok (.ireturn, 1) := by decide +kernel
theorem dX4_build_24 : decode cX4_build 24 = .ok (.aload_n 0, 1) := by decide +kernel
theorem dX4_build_25 : decode cX4_build 25 = .ok (.invokevirtual 59, 3) := by decide +kernel
theorem dX4_build_28 : decode cX4_build 28 = .ok (.aload_n 0, 1) := by decide +kernel
theorem dX4_build_29 : decode cX4_build 29 = .ok (.getfield 12, 3) := by decide +kernel
theorem dX4_build_32 : decode cX4_build 32 = .ok (.getfield 62, 3) := by decide +kernel
theorem dX4_build_35 : decode cX4_build 35 = .ok (.invokevirtual 66, 3) := by decide +kernel
theorem dX4_build_38 : decode cX4_build 38 = .ok (.istore_n 2, 1) := by decide +kernel
theorem dX4_build_39 : decode cX4_build 39 = .ok (.aload_n 0, 1) := by decide +kernel
theorem dX4_build_40 : decode cX4_build 40 = .ok (.getfield 12, 3) := by decide +kernel
theorem dX4_build_43 : decode cX4_build 43 = .ok (.getfield 62, 3) := by decide +kernel
theorem dX4_build_46 : decode cX4_build 46 = .ok (.iload_n 1, 1) := by decide +kernel
theorem dX4_build_47 : decode cX4_build 47 = .ok (.invokevirtual 71, 3) := by decide +kernel
theorem dX4_build_50 : decode cX4_build 50 = .ok (.iload_n 2, 1) := by decide +kernel
theorem dX4_build_51 : decode cX4_build 51 = .ok (.ireturn, 1) := by decide +kernel
set_option maxRecDepth 20000 in
theorem ggX4_step_X4_isVisitor : GoodIn wsX4_step wsX4_isVisitor := goodIn_r _ [5] (by decide +kernel) (by decide +kernel)
set_option maxRecDepth 20000 in
theorem gX4_step_X4_isVisitor : GoodIn wsX4_step (va_wsS RX4 75 yX4_isVisitor wsX4_isVisitor) := goodIn_app (goodIn_of _ (by decide +kernel)) ggX4_step_X4_isVisitor
set_option maxRecDepth 20000 in
theorem ggX4_step_X4_remember : GoodIn wsX4_step wsX4_remember := goodIn_r _ [9, 10, 11, 1, 12, 13, 14, 4, 15, 16, 17, 18, 19, 20, 21, 22, 23, 24, 25, 26, 27, 28, 29, 30, 31, 32, 33, 34, 35, 36, 123, 124, 125, 126, 127, 128, 129, 130, 131, 132, 133, 134, 135, 136, 137, 138] (by decide +kernel) (by decide +kernel)
set_option maxRecDepth 20000 in
theorem gX4_step_X4_remember : GoodIn wsX4_step (wsV RX4 59 RX4 yX4_remember wsX4_remember) := goodIn_app (goodIn_of _ (by decide +kernel)) ggX4_step_X4_remember
set_option maxRecDepth 20000 in
theorem ggX4_step_X3_advance : GoodIn wsX4_step wsX3_advance := goodIn_r _ [40, 21, 22, 41, 42, 43, 33, 44, 45, 46, 47, 48, 35, 49, 50, 51, 52, 53, 54, 55, 56, 57, 58, 59, 60, 61, 62, 63, 64, 65, 66, 67, 68, 69, 70, 4, 71, 72, 73, 74, 75, 76, 77, 78, 79, 80, 81, 82, 83, 84, 85, 86, 87, 88, 3, 5, 89, 90, 91, 92, 93, 94, 95, 96, 97, 98, 99, 100, 101, 102, 103, 104, 105, 106, 107, 108, 109, 110, 111, 112, 113, 114, 115, 116, 19, 117, 28, 27, 118, 119, 120, 121, 133, 134, 135, 136, 137, 138] (by decide +kernel) (by decide +kernel)
set_option maxRecDepth 20000 in
theorem gX4_step_X3_advance : GoodIn wsX4_step (wsV RX4 79 RX3 yX3_advance wsX3_advance) := goodIn_app (goodIn_of _ (by decide +kernel)) ggX4_step_X3_advance
set_option maxRecDepth 20000 in
theorem ggX4_step_X1_stage : GoodIn wsX4_step wsX1_stage := goodIn_r _ [52, 35, 138] (by decide +kernel) (by decide +kernel)
set_option maxRecDepth 20000 in
theorem gX4_step_X1_stage : GoodIn wsX4_step (wsV RX4 82 RX1 yX1_stage wsX1_stage) := goodIn_app (goodIn_of _ (by decide +kernel)) ggX4_step_X1_stage
theorem dX4_step_0 : decode cX4_step 0 = .ok (.iload_n 1, 1) := by decide +kernel
theorem dX4_step_1 : decode cX4_step 1 = .ok (.invokestatic 75, 3) := by decide +kernel
theorem dX4_step_4 : decode cX4_step 4 = .ok (.ifCond .ne 5, 3) := by decide +kernel
theorem dX4_step_7 : decode cX4_step 7 = .ok (.iconst (-1), 1) := by decide +kernel
theorem dX4_step_8 : decode cX4_step 8 = .ok (.ireturn, 1) := by decide +kernel
theorem dX4_step_9 : decode cX4_step 9 = .ok (.aload_n 0, 1) := by decide +kernel
theorem dX4_step_10 : decode cX4_step 10 = .ok (.invokevirtual 59, 3) := by decide +kernel
theorem dX4_step_13 : decode cX4_step 13 = .ok (.aload_n 0, 1) := by decide +kernel
theorem dX4_step_14 : decode cX4_step 14 = .ok (.getfield 12, 3) := by decide +kernel
theorem dX4_step_17 : decode cX4_step 17 = .ok (.iload_n 1, 1) := by decide +kernel
theorem dX4_step_18 : decode cX4_step 18 = .ok (.invokevirtual 79, 3) := by decide +kernel
theorem dX4_step_21 : decode cX4_step 21 = .ok (.aload_n 0, 1) := by decide +kernel
theorem dX4_step_22 : decode cX4_step 22 = .ok (.getfield 12, 3) := by decide +kernel
theorem dX4_step_25 : decode cX4_step 25 = .ok (.getfield 62, 3) := by decide +kernel
theorem dX4_step_28 : decode cX4_step 28 = .ok (.iload_n 1, 1) := by decide +kernel
theorem dX4_step_29 : decode cX4_step 29 = .ok (.invokevirtual 82, 3) := by decide +kernel
theorem dX4_step_32 : decode cX4_step 32 = .ok (.ireturn, 1) := by decide +kernel
set_option maxRecDepth 20000 in
theorem ggX4_go_X4_isVisitor : GoodIn wsX4_go wsX4_isVisitor := goodIn_r _ [5] (by decide +kernel) (by decide +kernel)
set_option maxRecDepth 20000 in
theorem gX4_go_X4_isVisitor : GoodIn wsX4_go (va_wsS RX4 75 yX4_isVisitor wsX4_isVisitor) := goodIn_app (goodIn_of _ (by decide +kernel)) ggX4_go_X4_isVisitor
set_option maxRecDepth 20000 in
theorem ggX4_go_X1_waits : GoodIn wsX4_go wsX1_waits := goodIn_r _ [10, 11, 12, 13, 14, 9, 15, 16, 17, 18, 19, 20, 21, 22, 23, 24, 25, 26, 27, 28, 4, 29, 146] (by decide +kernel) (by decide +kernel)
set_option maxRecDepth 20000 in
theorem gX4_go_X1_waits : GoodIn wsX4_go (wsV RX4 86 RX1 yX1_waits wsX1_waits) := goodIn_app (goodIn_of _ (by decide +kernel)) ggX4_go_X1_waits
set_option maxRecDepth 20000 in
theorem ggX4_go_X4_remember : GoodIn wsX4_go wsX4_remember := goodIn_r _ [33, 34, 35, 1, 36, 37, 38, 4, 39, 40, 41, 42, 43, 44, 45, 46, 47, 48, 49, 50, 51, 52, 53, 54, 55, 56, 9, 57, 11, 58, 131, 132, 133, 134, 135, 136, 137, 138, 139, 140, 141, 142, 143, 144, 145, 146] (by decide +kernel) (by decide +kernel)
set_option maxRecDepth 20000 in
theorem gX4_go_X4_remember : GoodIn wsX4_go (wsV RX4 59 RX4 yX4_remember wsX4_remember) := goodIn_app (goodIn_of _ (by decide +kernel)) ggX4_go_X4_remember
set_option maxRecDepth 20000 in
theorem ggX4_go_X3_advanceFreely : GoodIn wsX4_go wsX3_advanceFreely := goodIn_r _ [62, 63, 64, 65, 43, 66, 45, 46, 67, 68, 69, 9, 70, 20, 21, 22, 23, 11, 12, 13, 14, 15, 71, 72, 73, 74, 75, 76, 7, 8, 10, 16, 17, 18, 19, 24, 25, 26, 27, 28, 4, 29, 77, 78, 79, 80, 81, 82, 83, 84, 85, 86, 87, 88, 89, 90, 91, 92, 93, 3, 5, 94, 95, 96, 97, 98, 99, 100, 101, 102, 103, 104, 105, 106, 107, 108, 109, 110, 111, 112, 113, 114, 115, 116, 117, 118, 119, 120, 121, 122, 52, 51, 123, 124, 125, 126, 127, 128, 129, 130, 141, 142, 143, 144, 145, 146] (by decide +kernel) (by decide +kernel)
set_option maxRecDepth 20000 in
theorem gX4_go_X3_advanceFreely : GoodIn wsX4_go (wsV RX4 89 RX3 yX3_advanceFreely wsX3_advanceFreely) := goodIn_app (goodIn_of _ (by decide +kernel)) ggX4_go_X3_advanceFreely
theorem dX4_go_0 : decode cX4_go 0 = .ok (.iload_n 1, 1) := by decide +kernel
theorem dX4_go_1 : decode cX4_go 1 = .ok (.invokestatic 75, 3) := by decide +kernel
theorem dX4_go_4 : decode cX4_go 4 = .ok (.ifCond .ne 5, 3) := by decide +kernel
theorem dX4_go_7 : decode cX4_go 7 = .ok (.iconst (-1), 1) := by decide +kernel
theorem dX4_go_8 : decode cX4_go 8 = .ok (.ireturn, 1) := by decide +kernel
theorem dX4_go_9 : decode cX4_go 9 = .ok (.aload_n 0, 1) := by decide +kernel
theorem dX4_go_10 : decode cX4_go 10 = .ok (.getfield 12, 3) := by decide +kernel
theorem dX4_go_13 : decode cX4_go 13 = .ok (.getfield 62, 3) := by decide +kernel
theorem dX4_go_16 : decode cX4_go 16 = .ok (.iload_n 1, 1) := by decide +kernel
theorem dX4_go_17 : decode cX4_go 17 = .ok (.invokevirtual 86, 3) := by decide +kernel
theorem dX4_go_20 : decode cX4_go 20 = .ok (.ifCond .eq 6, 3) := by decide +kernel
theorem dX4_go_23 : decode cX4_go 23 = .ok (.bipush (-5), 2) := by decide +kernel
theorem dX4_go_25 : decode cX4_go 25 = .ok (.ireturn, 1) := by decide +kernel
theorem dX4_go_26 : decode cX4_go 26 = .ok (.aload_n 0, 1) := by decide +kernel
theorem dX4_go_27 : decode cX4_go 27 = .ok (.invokevirtual 59, 3) := by decide +kernel
theorem dX4_go_30 : decode cX4_go 30 = .ok (.aload_n 0, 1) := by decide +kernel
theorem dX4_go_31 : decode cX4_go 31 = .ok (.getfield 12, 3) := by decide +kernel
theorem dX4_go_34 : decode cX4_go 34 = .ok (.iload_n 1, 1) := by decide +kernel
theorem dX4_go_35 : decode cX4_go 35 = .ok (.invokevirtual 89, 3) := by decide +kernel
theorem dX4_go_38 : decode cX4_go 38 = .ok (.ireturn, 1) := by decide +kernel
set_option maxRecDepth 20000 in
theorem ggX4_draw_X4_remember : GoodIn wsX4_draw wsX4_remember := goodIn_r _ [6, 7, 8, 1, 9, 10, 11, 5, 12, 13, 14, 15, 16, 17, 18, 19, 20, 21, 22, 23, 24, 25, 26, 27, 28, 29, 30, 31, 32, 33, 140, 141, 142, 143, 144, 145, 146, 147, 148, 149, 150, 151, 152, 153, 154, 155] (by decide +kernel) (by decide +kernel)
set_option maxRecDepth 20000 in
theorem gX4_draw_X4_remember : GoodIn wsX4_draw (wsV RX4 59 RX4 yX4_remember wsX4_remember) := goodIn_app (goodIn_of _ (by decide +kernel)) ggX4_draw_X4_remember
set_option maxRecDepth 20000 in
theorem ggX4_draw_X3_sum : GoodIn wsX4_draw wsX3_sum := goodIn_r _ [37, 19, 150, 151, 152, 153, 154] (by decide +kernel) (by decide +kernel)
set_option maxRecDepth 20000 in
theorem gX4_draw_X3_sum : GoodIn wsX4_draw (wsV RX4 92 RX3 yX3_sum wsX3_sum) := goodIn_app (goodIn_of _ (by decide +kernel)) ggX4_draw_X3_sum
set_option maxRecDepth 20000 in
theorem ggX4_draw_X3_lot : GoodIn wsX4_draw wsX3_lot := goodIn_r _ [41, 26, 42, 43, 44, 45, 46, 47, 48, 49, 50, 51, 52, 150, 151, 152, 153, 154] (by decide +kernel) (by decide +kernel)
set_option maxRecDepth 20000 in
theorem gX4_draw_X3_lot : GoodIn wsX4_draw (wsV RX4 95 RX3 yX3_lot wsX3_lot) := goodIn_app (goodIn_of _ (by decide +kernel)) ggX4_draw_X3_lot
set_option maxRecDepth 20000 in
theorem ggX4_draw_X3_advance : GoodIn wsX4_draw wsX3_advance := goodIn_r _ [56, 18, 19, 57, 58, 59, 30, 60, 61, 62, 63, 64, 32, 65, 66, 67, 68, 69, 70, 71, 72, 73, 74, 75, 76, 77, 78, 79, 80, 81, 82, 83, 84, 85, 86, 5, 87, 88, 89, 90, 91, 92, 93, 94, 95, 96, 97, 98, 99, 100, 101, 102, 103, 104, 105, 106, 107, 108, 109, 110, 111, 112, 113, 114, 115, 116, 117, 118, 119, 120, 121, 122, 123, 124, 125, 126, 127, 128, 129, 130, 131, 132, 133, 134, 16, 135, 25, 24, 136, 137, 138, 139, 150, 151, 152, 153, 154, 155] (by decide +kernel) (by decide +kernel)
set_option maxRecDepth 20000 in
theorem gX4_draw_X3_advance : GoodIn wsX4_draw (wsV RX4 79 RX3 yX3_advance wsX3_advance) := goodIn_app (goodIn_of _ (by decide +kernel)) ggX4_draw_X3_advance
theorem dX4_draw_0 : decode cX4_draw 0 = .ok (.iload_n 1, 1) := by decide +kernel
theorem dX4_draw_1 : decode cX4_draw 1 = .ok (.iconst 1, 1) := by decide +kernel
theorem dX4_draw_2 : decode cX4_draw 2 = .ok (.if_icmp .lt 21, 3) := by decide +kernel
theorem dX4_draw_5 : decode cX4_draw 5 = .ok (.iload_n 1, 1) := by decide +kernel
theorem dX4_draw_6 : decode cX4_draw 6 = .ok (.bipush 64, 2) := by decide +kernel
theorem dX4_draw_8 : decode cX4_draw 8 = .ok (.if_icmp .ge 15, 3) := by decide +kernel
theorem dX4_draw_11 : decode cX4_draw 11 = .ok (.iload_n 2, 1) := by decide +kernel
theorem dX4_draw_12 : decode cX4_draw 12 = .ok (.iconst 1, 1) := by decide +kernel
theorem dX4_draw_13 : decode cX4_draw 13 = .ok (.if_icmp .lt 10, 3) := by decide +kernel
theorem dX4_draw_16 : decode cX4_draw 16 = .ok (.iload_n 2, 1) := by decide +kernel
theorem dX4_draw_17 : decode cX4_draw 17 = .ok (.sipush 200, 3) := by decide +kernel
theorem dX4_draw_20 : decode cX4_draw 20 = .ok (.if_icmp .le 6, 3) := by decide +kernel
theorem dX4_draw_23 : decode cX4_draw 23 = .ok (.bipush (-2), 2) := by decide +kernel
theorem dX4_draw_25 : decode cX4_draw 25 = .ok (.ireturn, 1) := by decide +kernel
theorem dX4_draw_26 : decode cX4_draw 26 = .ok (.aload_n 0, 1) := by decide +kernel
theorem dX4_draw_27 : decode cX4_draw 27 = .ok (.invokevirtual 59, 3) := by decide +kernel
theorem dX4_draw_30 : decode cX4_draw 30 = .ok (.aload_n 0, 1) := by decide +kernel
theorem dX4_draw_31 : decode cX4_draw 31 = .ok (.getfield 12, 3) := by decide +kernel
theorem dX4_draw_34 : decode cX4_draw 34 = .ok (.bipush 12, 2) := by decide +kernel
theorem dX4_draw_36 : decode cX4_draw 36 = .ok (.invokevirtual 92, 3) := by decide +kernel
theorem dX4_draw_39 : decode cX4_draw 39 = .ok (.istore_n 3, 1) := by decide +kernel
theorem dX4_draw_40 : decode cX4_draw 40 = .ok (.iconst 0, 1) := by decide +kernel
theorem dX4_draw_41 : decode cX4_draw 41 = .ok (.istore 4, 2) := by decide +kernel
theorem dX4_draw_43 : decode cX4_draw 43 = .ok (.iload 4, 2) := by decide +kernel
theorem dX4_draw_45 : decode cX4_draw 45 = .ok (.iload_n 2, 1) := by decide +kernel
theorem dX4_draw_46 : decode cX4_draw 46 = .ok (.if_icmp .ge 24, 3) := by decide +kernel
theorem dX4_draw_49 : decode cX4_draw 49 = .ok (.aload_n 0, 1) := by decide +kernel
theorem dX4_draw_50 : decode cX4_draw 50 = .ok (.getfield 12, 3) := by decide +kernel
theorem dX4_draw_53 : decode cX4_draw 53 = .ok (.aload_n 0, 1) := by decide +kernel
theorem dX4_draw_54 : decode cX4_draw 54 = .ok (.getfield 12, 3) := by decide +kernel
theorem dX4_draw_57 : decode cX4_draw 57 = .ok (.iload_n 1, 1) := by decide +kernel
theorem dX4_draw_58 : decode cX4_draw 58 = .ok (.invokevirtual 95, 3) := by decide +kernel
theorem dX4_draw_61 : decode cX4_draw 61 = .ok (.invokevirtual 79, 3) := by decide +kernel
theorem dX4_draw_64 : decode cX4_draw 64 = .ok (.iinc 4 1, 3) := by decide +kernel
theorem dX4_draw_67 : decode cX4_draw 67 = .ok (.goto (-24), 3) := by decide +kernel
theorem dX4_draw_70 : decode cX4_draw 70 = .ok (.aload_n 0, 1) := by decide +kernel
theorem dX4_draw_71 : decode cX4_draw 71 = .ok (.getfield 12, 3) := by decide +kernel
theorem dX4_draw_74 : decode cX4_draw 74 = .ok (.bipush 12, 2) := by decide +kernel
theorem dX4_draw_76 : decode cX4_draw 76 = .ok (.invokevirtual 92, 3) := by decide +kernel
theorem dX4_draw_79 : decode cX4_draw 79 = .ok (.iload_n 3, 1) := by decide +kernel
theorem dX4_draw_80 : decode cX4_draw 80 = .ok (.isub, 1) := by decide +kernel
theorem dX4_draw_81 : decode cX4_draw 81 = .ok (.ireturn, 1) := by decide +kernel
set_option maxRecDepth 20000 in
theorem ggX4_shuffle_X4_remember : GoodIn wsX4_shuffle wsX4_remember := goodIn_r _ [6, 7, 8, 1, 9, 10, 11, 5, 12, 13, 14, 15, 16, 17, 18, 19, 20, 21, 22, 23, 24, 25, 26, 27, 28, 29, 30, 31, 32, 33, 34, 35, 36, 37, 38, 39, 40, 41, 42, 43, 44, 45, 46, 47, 48, 49] (by decide +kernel) (by decide +kernel)
set_option maxRecDepth 20000 in
theorem gX4_shuffle_X4_remember : GoodIn wsX4_shuffle (wsV RX4 59 RX4 yX4_remember wsX4_remember) := goodIn_app (goodIn_of _ (by decide +kernel)) ggX4_shuffle_X4_remember
theorem dX4_shuffle_0 : decode cX4_shuffle 0 = .ok (.iload_n 1, 1) := by decide +kernel
theorem dX4_shuffle_1 : decode cX4_shuffle 1 = .ok (.ifCond .ge 6, 3) := by decide +kernel
theorem dX4_shuffle_4 : decode cX4_shuffle 4 = .ok (.bipush (-2), 2) := by decide +kernel
theorem dX4_shuffle_6 : decode cX4_shuffle 6 = .ok (.ireturn, 1) := by decide +kernel
theorem dX4_shuffle_7 : decode cX4_shuffle 7 = .ok (.iload_n 1, 1) := by decide +kernel
theorem dX4_shuffle_8 : decode cX4_shuffle 8 = .ok (.aload_n 0, 1) := by decide +kernel
theorem dX4_shuffle_9 : decode cX4_shuffle 9 = .ok (.getfield 12, 3) := by decide +kernel
theorem dX4_shuffle_12 : decode cX4_shuffle 12 = .ok (.getfield 98, 3) := by decide +kernel
theorem dX4_shuffle_15 : decode cX4_shuffle 15 = .ok (.if_icmp .ne 6, 3) := by decide +kernel
theorem dX4_shuffle_18 : decode cX4_shuffle 18 = .ok (.bipush (-5), 2) := by decide +kernel
theorem dX4_shuffle_20 : decode cX4_shuffle 20 = .ok (.ireturn, 1) := by decide +kernel
theorem dX4_shuffle_21 : decode cX4_shuffle 21 = .ok (.aload_n 0, 1) := by decide +kernel
theorem dX4_shuffle_22 : decode cX4_shuffle 22 = .ok (.invokevirtual 59, 3) := by decide +kernel
theorem dX4_shuffle_25 : decode cX4_shuffle 25 = .ok (.aload_n 0, 1) := by decide +kernel
theorem dX4_shuffle_26 : decode cX4_shuffle 26 = .ok (.getfield 12, 3) := by decide +kernel
theorem dX4_shuffle_29 : decode cX4_shuffle 29 = .ok (.getfield 98, 3) := by decide +kernel
theorem dX4_shuffle_32 : decode cX4_shuffle 32 = .ok (.istore_n 2, 1) := by decide +kernel
theorem dX4_shuffle_33 : decode cX4_shuffle 33 = .ok (.aload_n 0, 1) := by decide +kernel
theorem dX4_shuffle_34 : decode cX4_shuffle 34 = .ok (.getfield 12, 3) := by decide +kernel
theorem dX4_shuffle_37 : decode cX4_shuffle 37 = .ok (.iload_n 1, 1) := by decide +kernel
theorem dX4_shuffle_38 : decode cX4_shuffle 38 = .ok (.putfield 98, 3) := by decide +kernel
theorem dX4_shuffle_41 : decode cX4_shuffle 41 = .ok (.iload_n 2, 1) := by decide +kernel
theorem dX4_shuffle_42 : decode cX4_shuffle 42 = .ok (.ireturn, 1) := by decide +kernel
set_option maxRecDepth 20000 in
theorem ggX4_perform_X2_fault : GoodIn wsX4_perform wsX2_fault := goodIn_r _ [8, 9, 10, 7, 11, 12, 13, 14] (by decide +kernel) (by decide +kernel)
set_option maxRecDepth 20000 in
theorem gX4_perform_X2_fault : GoodIn wsX4_perform (va_wsS RX4 101 yX2_fault wsX2_fault) := goodIn_app (goodIn_of _ (by decide +kernel)) ggX4_perform_X2_fault
set_option maxRecDepth 20000 in
theorem ggX4_perform_X2_expand : GoodIn wsX4_perform wsX2_expand := goodIn_r _ [18, 19, 20, 12, 13, 7, 14, 21, 22, 23, 24, 25, 26, 27, 28, 29, 30, 31, 32, 33, 34, 35, 36, 37, 38, 39, 40, 41, 42, 43, 9, 10, 11, 174, 175, 176, 177, 178] (by decide +kernel) (by decide +kernel)
set_option maxRecDepth 20000 in
theorem gX4_perform_X2_expand : GoodIn wsX4_perform (wsV RX4 105 RX2 yX2_expand wsX2_expand) := goodIn_app (goodIn_of _ (by decide +kernel)) ggX4_perform_X2_expand
set_option maxRecDepth 20000 in
theorem ggX4_perform_X4_remember : GoodIn wsX4_perform wsX4_remember := goodIn_r _ [48, 49, 50, 4, 51, 52, 53, 47, 54, 55, 56, 57, 58, 59, 60, 61, 62, 37, 38, 39, 63, 64, 65, 66, 67, 68, 69, 70, 71, 72, 164, 165, 166, 167, 168, 169, 170, 171, 172, 173, 179, 180, 181, 182, 183, 184] (by decide +kernel) (by decide +kernel)
set_option maxRecDepth 20000 in
theorem gX4_perform_X4_remember : GoodIn wsX4_perform (wsV RX4 59 RX4 yX4_remember wsX4_remember) := goodIn_app (goodIn_of _ (by decide +kernel)) ggX4_perform_X4_remember
set_option maxRecDepth 20000 in
theorem ggX4_perform_X2_visitorAt : GoodIn wsX4_perform wsX2_visitorAt := goodIn_r _ [76, 19, 35, 174, 175, 176, 177, 178] (by decide +kernel) (by decide +kernel)
set_option maxRecDepth 20000 in
theorem gX4_perform_X2_visitorAt : GoodIn wsX4_perform (wsV RX4 108 RX2 yX2_visitorAt wsX2_visitorAt) := goodIn_app (goodIn_of _ (by decide +kernel)) ggX4_perform_X2_visitorAt
set_option maxRecDepth 20000 in
theorem ggX4_perform_X3_advance : GoodIn wsX4_perform wsX3_advance := goodIn_r _ [80, 60, 61, 81, 82, 83, 69, 84, 85, 86, 87, 88, 71, 89, 90, 91, 92, 93, 94, 95, 96, 97, 98, 99, 100, 101, 102, 103, 104, 105, 106, 107, 108, 109, 110, 47, 111, 112, 113, 114, 115, 116, 117, 118, 119, 120, 121, 122, 123, 124, 125, 126, 127, 128, 129, 130, 131, 132, 133, 134, 135, 136, 137, 138, 139, 140, 141, 142, 143, 144, 145, 146, 147, 148, 149, 150, 151, 152, 153, 154, 155, 156, 157, 158, 58, 159, 64, 63, 160, 161, 162, 163, 179, 180, 181, 182, 183, 184] (by decide +kernel) (by decide +kernel)
set_option maxRecDepth 20000 in
theorem gX4_perform_X3_advance : GoodIn wsX4_perform (wsV RX4 79 RX3 yX3_advance wsX3_advance) := goodIn_app (goodIn_of _ (by decide +kernel)) ggX4_perform_X3_advance
theorem dX4_perform_0 : decode cX4_perform 0 = .ok (.aload_n 0, 1) := by decide +kernel
theorem dX4_perform_1 : decode cX4_perform 1 = .ok (.getfield 34, 3) := by decide +kernel
theorem dX4_perform_4 : decode cX4_perform 4 = .ok (.aload_n 0, 1) := by decide +kernel
theorem dX4_perform_5 : decode cX4_perform 5 = .ok (.getfield 38, 3) := by decide +kernel
theorem dX4_perform_8 : decode cX4_perform 8 = .ok (.invokestatic 101, 3) := by decide +kernel
theorem dX4_perform_11 : decode cX4_perform 11 = .ok (.istore_n 1, 1) := by decide +kernel
theorem dX4_perform_12 : decode cX4_perform 12 = .ok (.iload_n 1, 1) := by decide +kernel
theorem dX4_perform_13 : decode cX4_perform 13 = .ok (.bipush (-5), 2) := by decide +kernel
theorem dX4_perform_15 : decode cX4_perform 15 = .ok (.if_icmp .eq 8, 3) := by decide +kernel
theorem dX4_perform_18 : decode cX4_perform 18 = .ok (.bipush (-100), 2) := by decide +kernel
theorem dX4_perform_20 : decode cX4_perform 20 = .ok (.iload_n 1, 1) := by decide +kernel
theorem dX4_perform_21 : decode cX4_perform 21 = .ok (.isub, 1) := by decide +kernel
theorem dX4_perform_22 : decode cX4_perform 22 = .ok (.ireturn, 1) := by decide +kernel
theorem dX4_perform_23 : decode cX4_perform 23 = .ok (.aload_n 0, 1) := by decide +kernel
theorem dX4_perform_24 : decode cX4_perform 24 = .ok (.getfield 44, 3) := by decide +kernel
theorem dX4_perform_27 : decode cX4_perform 27 = .ok (.aload_n 0, 1) := by decide +kernel
theorem dX4_perform_28 : decode cX4_perform 28 = .ok (.getfield 34, 3) := by decide +kernel
theorem dX4_perform_31 : decode cX4_perform 31 = .ok (.aload_n 0, 1) := by decide +kernel
theorem dX4_perform_32 : decode cX4_perform 32 = .ok (.getfield 38, 3) := by decide +kernel
theorem dX4_perform_35 : decode cX4_perform 35 = .ok (.invokevirtual 105, 3) := by decide +kernel
theorem dX4_perform_38 : decode cX4_perform 38 = .ok (.istore_n 2, 1) := by decide +kernel
theorem dX4_perform_39 : decode cX4_perform 39 = .ok (.iload_n 2, 1) := by decide +kernel
theorem dX4_perform_40 : decode cX4_perform 40 = .ok (.bipush (-3), 2) := by decide +kernel
theorem dX4_perform_42 : decode cX4_perform 42 = .ok (.if_icmp .ne 6, 3) := by decide +kernel
theorem dX4_perform_45 : decode cX4_perform 45 = .ok (.bipush (-3), 2) := by decide +kernel
theorem dX4_perform_47 : decode cX4_perform 47 = .ok (.ireturn, 1) := by decide +kernel
theorem dX4_perform_48 : decode cX4_perform 48 = .ok (.aload_n 0, 1) := by decide +kernel
theorem dX4_perform_49 : decode cX4_perform 49 = .ok (.invokevirtual 59, 3) := by decide +kernel
theorem dX4_perform_52 : decode cX4_perform 52 = .ok (.iconst 0, 1) := by decide +kernel
theorem dX4_perform_53 : decode cX4_perform 53 = .ok (.istore_n 3, 1) := by decide +kernel
theorem dX4_perform_54 : decode cX4_perform 54 = .ok (.iload_n 3, 1) := by decide +kernel
theorem dX4_perform_55 : decode cX4_perform 55 = .ok (.iload_n 2, 1) := by decide +kernel
theorem dX4_perform_56 : decode cX4_perform 56 = .ok (.if_icmp .ge 24, 3) := by decide +kernel
theorem dX4_perform_59 : decode cX4_perform 59 = .ok (.aload_n 0, 1) := by decide +kernel
theorem dX4_perform_60 : decode cX4_perform 60 = .ok (.getfield 12, 3) := by decide +kernel
theorem dX4_perform_63 : decode cX4_perform 63 = .ok (.aload_n 0, 1) := by decide +kernel
theorem dX4_perform_64 : decode cX4_perform 64 = .ok (.getfield 44, 3) := by decide +kernel
theorem dX4_perform_67 : decode cX4_perform 67 = .ok (.iload_n 3, 1) := by decide +kernel
theorem dX4_perform_68 : decode cX4_perform 68 = .ok (.invokevirtual 108, 3) := by decide +kernel
theorem dX4_perform_71 : decode cX4_perform 71 = .ok (.invokevirtual 79, 3) := by decide +kernel
theorem dX4_perform_74 : decode cX4_perform 74 = .ok (.iinc 3 1, 3) := by decide +kernel
theorem dX4_perform_77 : decode cX4_perform 77 = .ok (.goto (-23), 3) := by decide +kernel
theorem dX4_perform_80 : decode cX4_perform 80 = .ok (.iload_n 2, 1) := by decide +kernel
theorem dX4_perform_81 : decode cX4_perform 81 = .ok (.ireturn, 1) := by decide +kernel
set_option maxRecDepth 20000 in
theorem ggX4_finish_X3_present : GoodIn wsX4_finish wsX3_present := goodIn_r _ [6, 7, 8, 9, 10, 11, 12, 13, 14, 15, 16, 17, 145, 146, 147, 148, 149, 150] (by decide +kernel) (by decide +kernel)
set_option maxRecDepth 20000 in
theorem gX4_finish_X3_present : GoodIn wsX4_finish (wsV RX4 55 RX3 yX3_present wsX3_present) := goodIn_app (goodIn_of _ (by decide +kernel)) ggX4_finish_X3_present
set_option maxRecDepth 20000 in
theorem ggX4_finish_X4_remember : GoodIn wsX4_finish wsX4_remember := goodIn_r _ [22, 23, 24, 1, 25, 26, 27, 21, 28, 29, 30, 31, 5, 32, 7, 33, 34, 35, 36, 37, 38, 39, 40, 41, 42, 43, 11, 44, 17, 45, 135, 136, 137, 138, 139, 140, 141, 142, 143, 144, 145, 146, 147, 148, 149, 150] (by decide +kernel) (by decide +kernel)
set_option maxRecDepth 20000 in
theorem gX4_finish_X4_remember : GoodIn wsX4_finish (wsV RX4 59 RX4 yX4_remember wsX4_remember) := goodIn_app (goodIn_of _ (by decide +kernel)) ggX4_finish_X4_remember
set_option maxRecDepth 20000 in
theorem ggX4_finish_X3_advanceAll : GoodIn wsX4_finish wsX3_advanceAll := goodIn_r _ [49, 50, 7, 51, 3, 4, 5, 6, 8, 9, 10, 11, 12, 13, 14, 15, 16, 17, 52, 53, 54, 55, 56, 33, 57, 58, 59, 60, 61, 62, 63, 64, 65, 66, 67, 68, 69, 70, 71, 72, 73, 74, 75, 76, 77, 78, 79, 80, 81, 82, 21, 83, 84, 85, 86, 87, 88, 89, 90, 91, 92, 93, 94, 95, 96, 97, 98, 99, 100, 101, 102, 103, 104, 105, 106, 107, 108, 109, 110, 111, 112, 113, 114, 115, 116, 117, 118, 119, 120, 121, 122, 123, 124, 125, 126, 127, 128, 129, 130, 39, 38, 131, 132, 133, 134, 145, 146, 147, 148, 149, 150] (by decide +kernel) (by decide +kernel)
set_option maxRecDepth 20000 in
theorem gX4_finish_X3_advanceAll : GoodIn wsX4_finish (wsV RX4 111 RX3 yX3_advanceAll wsX3_advanceAll) := goodIn_app (goodIn_of _ (by decide +kernel)) ggX4_finish_X3_advanceAll
theorem dX4_finish_0 : decode cX4_finish 0 = .ok (.aload_n 0, 1) := by decide +kernel
theorem dX4_finish_1 : decode cX4_finish 1 = .ok (.getfield 12, 3) := by decide +kernel
theorem dX4_finish_4 : decode cX4_finish 4 = .ok (.invokevirtual 55, 3) := by decide +kernel
theorem dX4_finish_7 : decode cX4_finish 7 = .ok (.ifCond .ne 6, 3) := by decide +kernel
theorem dX4_finish_10 : decode cX4_finish 10 = .ok (.bipush (-5), 2) := by decide +kernel
theorem dX4_finish_12 : decode cX4_finish 12 = .ok (.ireturn, 1) := by decide +kernel
theorem dX4_finish_13 : decode cX4_finish 13 = .ok (.aload_n 0, 1) := by decide +kernel
theorem dX4_finish_14 : decode cX4_finish 14 = .ok (.invokevirtual 59, 3) := by decide +kernel
theorem dX4_finish_17 : decode cX4_finish 17 = .ok (.aload_n 0, 1) := by decide +kernel
theorem dX4_finish_18 : decode cX4_finish 18 = .ok (.getfield 12, 3) := by decide +kernel
theorem dX4_finish_21 : decode cX4_finish 21 = .ok (.invokevirtual 111, 3) := by decide +kernel
theorem dX4_finish_24 : decode cX4_finish 24 = .ok (.ireturn, 1) := by decide +kernel
theorem dX4_clearText_0 : decode cX4_clearText 0 = .ok (.aload_n 0, 1) := by decide +kernel
theorem dX4_clearText_1 : decode cX4_clearText 1 = .ok (.getfield 38, 3) := by decide +kernel
theorem dX4_clearText_4 : decode cX4_clearText 4 = .ok (.istore_n 1, 1) := by decide +kernel
theorem dX4_clearText_5 : decode cX4_clearText 5 = .ok (.aload_n 0, 1) := by decide +kernel
theorem dX4_clearText_6 : decode cX4_clearText 6 = .ok (.iconst 0, 1) := by decide +kernel
theorem dX4_clearText_7 : decode cX4_clearText 7 = .ok (.putfield 38, 3) := by decide +kernel
theorem dX4_clearText_10 : decode cX4_clearText 10 = .ok (.iload_n 1, 1) := by decide +kernel
theorem dX4_clearText_11 : decode cX4_clearText 11 = .ok (.ireturn, 1) := by decide +kernel
set_option maxRecDepth 20000 in
theorem ggX4_undo_X3_copyFrom : GoodIn wsX4_undo wsX3_copyFrom := goodIn_r _ [8, 9, 10, 11, 12, 13, 14, 15, 16, 17, 18, 19, 20, 21, 22, 23, 24, 35, 36, 37, 38, 39, 40] (by decide +kernel) (by decide +kernel)
set_option maxRecDepth 20000 in
theorem gX4_undo_X3_copyFrom : GoodIn wsX4_undo (wsV RX4 114 RX3 yX3_copyFrom wsX3_copyFrom) := goodIn_app (goodIn_of _ (by decide +kernel)) ggX4_undo_X3_copyFrom
theorem dX4_undo_0 : decode cX4_undo 0 = .ok (.aload_n 0, 1) := by decide +kernel
theorem dX4_undo_1 : decode cX4_undo 1 = .ok (.getfield 30, 3) := by decide +kernel
theorem dX4_undo_4 : decode cX4_undo 4 = .ok (.iconst 1, 1) := by decide +kernel
theorem dX4_undo_5 : decode cX4_undo 5 = .ok (.if_icmp .ge 6, 3) := by decide +kernel
theorem dX4_undo_8 : decode cX4_undo 8 = .ok (.bipush (-5), 2) := by decide +kernel
theorem dX4_undo_10 : decode cX4_undo 10 = .ok (.ireturn, 1) := by decide +kernel
theorem dX4_undo_11 : decode cX4_undo 11 = .ok (.aload_n 0, 1) := by decide +kernel
theorem dX4_undo_12 : decode cX4_undo 12 = .ok (.dup, 1) := by decide +kernel
theorem dX4_undo_13 : decode cX4_undo 13 = .ok (.getfield 30, 3) := by decide +kernel
theorem dX4_undo_16 : decode cX4_undo 16 = .ok (.iconst 1, 1) := by decide +kernel
theorem dX4_undo_17 : decode cX4_undo 17 = .ok (.isub, 1) := by decide +kernel
theorem dX4_undo_18 : decode cX4_undo 18 = .ok (.putfield 30, 3) := by decide +kernel
theorem dX4_undo_21 : decode cX4_undo 21 = .ok (.aload_n 0, 1) := by decide +kernel
theorem dX4_undo_22 : decode cX4_undo 22 = .ok (.getfield 12, 3) := by decide +kernel
theorem dX4_undo_25 : decode cX4_undo 25 = .ok (.aload_n 0, 1) := by decide +kernel
theorem dX4_undo_26 : decode cX4_undo 26 = .ok (.getfield 26, 3) := by decide +kernel
theorem dX4_undo_29 : decode cX4_undo 29 = .ok (.aload_n 0, 1) := by decide +kernel
theorem dX4_undo_30 : decode cX4_undo 30 = .ok (.getfield 30, 3) := by decide +kernel
theorem dX4_undo_33 : decode cX4_undo 33 = .ok (.aaload, 1) := by decide +kernel
theorem dX4_undo_34 : decode cX4_undo 34 = .ok (.invokevirtual 114, 3) := by decide +kernel
theorem dX4_undo_37 : decode cX4_undo 37 = .ok (.aload_n 0, 1) := by decide +kernel
theorem dX4_undo_38 : decode cX4_undo 38 = .ok (.getfield 30, 3) := by decide +kernel
theorem dX4_undo_41 : decode cX4_undo 41 = .ok (.ireturn, 1) := by decide +kernel
set_option maxRecDepth 20000 in
theorem ggX4_keep_X3_copyFrom : GoodIn wsX4_keep wsX3_copyFrom := goodIn_r _ [8, 9, 10, 11, 12, 13, 14, 15, 16, 17, 18, 19, 20, 21, 22, 23, 24, 47, 48, 49, 50, 51, 52] (by decide +kernel) (by decide +kernel)
set_option maxRecDepth 20000 in
theorem gX4_keep_X3_copyFrom : GoodIn wsX4_keep (wsV RX4 114 RX3 yX3_copyFrom wsX3_copyFrom) := goodIn_app (goodIn_of _ (by decide +kernel)) ggX4_keep_X3_copyFrom
set_option maxRecDepth 20000 in
theorem ggX4_keep_X3_present : GoodIn wsX4_keep wsX3_present := goodIn_r _ [28, 9, 29, 30, 31, 21, 32, 33, 34, 35, 36, 23, 47, 48, 49, 50, 51, 52] (by decide +kernel) (by decide +kernel)
set_option maxRecDepth 20000 in
theorem gX4_keep_X3_present : GoodIn wsX4_keep (wsV RX4 55 RX3 yX3_present wsX3_present) := goodIn_app (goodIn_of _ (by decide +kernel)) ggX4_keep_X3_present
theorem dX4_keep_0 : decode cX4_keep 0 = .ok (.aload_n 0, 1) := by decide +kernel
theorem dX4_keep_1 : decode cX4_keep 1 = .ok (.getfield 19, 3) := by decide +kernel
theorem dX4_keep_4 : decode cX4_keep 4 = .ok (.aload_n 0, 1) := by decide +kernel
theorem dX4_keep_5 : decode cX4_keep 5 = .ok (.getfield 12, 3) := by decide +kernel
theorem dX4_keep_8 : decode cX4_keep 8 = .ok (.invokevirtual 114, 3) := by decide +kernel
theorem dX4_keep_11 : decode cX4_keep 11 = .ok (.aload_n 0, 1) := by decide +kernel
theorem dX4_keep_12 : decode cX4_keep 12 = .ok (.iconst 1, 1) := by decide +kernel
theorem dX4_keep_13 : decode cX4_keep 13 = .ok (.putfield 22, 3) := by decide +kernel
theorem dX4_keep_16 : decode cX4_keep 16 = .ok (.aload_n 0, 1) := by decide +kernel
theorem dX4_keep_17 : decode cX4_keep 17 = .ok (.getfield 12, 3) := by decide +kernel
theorem dX4_keep_20 : decode cX4_keep 20 = .ok (.invokevirtual 55, 3) := by decide +kernel
theorem dX4_keep_23 : decode cX4_keep 23 = .ok (.ireturn, 1) := by decide +kernel
set_option maxRecDepth 20000 in
theorem ggX4_restore_X4_remember : GoodIn wsX4_restore wsX4_remember := goodIn_r _ [8, 9, 10, 2, 11, 12, 13, 7, 14, 15, 16, 17, 18, 19, 20, 21, 22, 23, 24, 25, 26, 27, 28, 29, 30, 31, 32, 33, 34, 35, 48, 49, 50, 51, 52, 53, 54, 55, 56, 57, 58, 59, 60, 61, 62, 63] (by decide +kernel) (by decide +kernel)
set_option maxRecDepth 20000 in
theorem gX4_restore_X4_remember : GoodIn wsX4_restore (wsV RX4 59 RX4 yX4_remember wsX4_remember) := goodIn_app (goodIn_of _ (by decide +kernel)) ggX4_restore_X4_remember
set_option maxRecDepth 20000 in
theorem ggX4_restore_X3_copyFrom : GoodIn wsX4_restore wsX3_copyFrom := goodIn_r _ [19, 20, 21, 22, 23, 24, 25, 26, 27, 28, 29, 30, 31, 32, 33, 34, 35, 58, 59, 60, 61, 62, 63] (by decide +kernel) (by decide +kernel)
set_option maxRecDepth 20000 in
theorem gX4_restore_X3_copyFrom : GoodIn wsX4_restore (wsV RX4 114 RX3 yX3_copyFrom wsX3_copyFrom) := goodIn_app (goodIn_of _ (by decide +kernel)) ggX4_restore_X3_copyFrom
set_option maxRecDepth 20000 in
theorem ggX4_restore_X3_present : GoodIn wsX4_restore wsX3_present := goodIn_r _ [39, 20, 40, 41, 42, 32, 43, 44, 45, 46, 47, 34, 58, 59, 60, 61, 62, 63] (by decide +kernel) (by decide +kernel)
set_option maxRecDepth 20000 in
theorem gX4_restore_X3_present : GoodIn wsX4_restore (wsV RX4 55 RX3 yX3_present wsX3_present) := goodIn_app (goodIn_of _ (by decide +kernel)) ggX4_restore_X3_present
theorem dX4_restore_0 : decode cX4_restore 0 = .ok (.aload_n 0, 1) := by decide +kernel
theorem dX4_restore_1 : decode cX4_restore 1 = .ok (.getfield 22, 3) := by decide +kernel
theorem dX4_restore_4 : decode cX4_restore 4 = .ok (.ifCond .ne 6, 3) := by decide +kernel
theorem dX4_restore_7 : decode cX4_restore 7 = .ok (.bipush (-5), 2) := by decide +kernel
theorem dX4_restore_9 : decode cX4_restore 9 = .ok (.ireturn, 1) := by decide +kernel
theorem dX4_restore_10 : decode cX4_restore 10 = .ok (.aload_n 0, 1) := by decide +kernel
theorem dX4_restore_11 : decode cX4_restore 11 = .ok (.invokevirtual 59, 3) := by decide +kernel
theorem dX4_restore_14 : decode cX4_restore 14 = .ok (.aload_n 0, 1) := by decide +kernel
theorem dX4_restore_15 : decode cX4_restore 15 = .ok (.getfield 12, 3) := by decide +kernel
theorem dX4_restore_18 : decode cX4_restore 18 = .ok (.aload_n 0, 1) := by decide +kernel
theorem dX4_restore_19 : decode cX4_restore 19 = .ok (.getfield 19, 3) := by decide +kernel
theorem dX4_restore_22 : decode cX4_restore 22 = .ok (.invokevirtual 114, 3) := by decide +kernel
theorem dX4_restore_25 : decode cX4_restore 25 = .ok (.aload_n 0, 1) := by decide +kernel
theorem dX4_restore_26 : decode cX4_restore 26 = .ok (.getfield 12, 3) := by decide +kernel
theorem dX4_restore_29 : decode cX4_restore 29 = .ok (.invokevirtual 55, 3) := by decide +kernel
theorem dX4_restore_32 : decode cX4_restore 32 = .ok (.ireturn, 1) := by decide +kernel
set_option maxRecDepth 20000 in
theorem ggX4_visitor_X4_isVisitor : GoodIn wsX4_visitor wsX4_isVisitor := goodIn_r _ [5] (by decide +kernel) (by decide +kernel)
set_option maxRecDepth 20000 in
theorem gX4_visitor_X4_isVisitor : GoodIn wsX4_visitor (va_wsS RX4 75 yX4_isVisitor wsX4_isVisitor) := goodIn_app (goodIn_of _ (by decide +kernel)) ggX4_visitor_X4_isVisitor
set_option maxRecDepth 20000 in
theorem ggX4_visitor_X1_stage : GoodIn wsX4_visitor wsX1_stage := goodIn_r _ [10, 11, 63] (by decide +kernel) (by decide +kernel)
set_option maxRecDepth 20000 in
theorem gX4_visitor_X1_stage : GoodIn wsX4_visitor (wsV RX4 82 RX1 yX1_stage wsX1_stage) := goodIn_app (goodIn_of _ (by decide +kernel)) ggX4_visitor_X1_stage
set_option maxRecDepth 20000 in
theorem ggX4_visitor_X3_count : GoodIn wsX4_visitor wsX3_count := goodIn_r _ [16, 17, 58, 59, 60, 61, 62] (by decide +kernel) (by decide +kernel)
set_option maxRecDepth 20000 in
theorem gX4_visitor_X3_count : GoodIn wsX4_visitor (wsV RX4 118 RX3 yX3_count wsX3_count) := goodIn_app (goodIn_of _ (by decide +kernel)) ggX4_visitor_X3_count
set_option maxRecDepth 20000 in
theorem ggX4_visitor_X1_nextOf : GoodIn wsX4_visitor wsX1_nextOf := goodIn_r _ [21, 11, 63] (by decide +kernel) (by decide +kernel)
set_option maxRecDepth 20000 in
theorem gX4_visitor_X1_nextOf : GoodIn wsX4_visitor (wsV RX4 122 RX1 yX1_nextOf wsX1_nextOf) := goodIn_app (goodIn_of _ (by decide +kernel)) ggX4_visitor_X1_nextOf
set_option maxRecDepth 20000 in
theorem ggX4_visitor_X1_aheadOf : GoodIn wsX4_visitor wsX1_aheadOf := goodIn_r _ [25, 11, 26, 27, 28, 9, 29, 63] (by decide +kernel) (by decide +kernel)
set_option maxRecDepth 20000 in
theorem gX4_visitor_X1_aheadOf : GoodIn wsX4_visitor (wsV RX4 125 RX1 yX1_aheadOf wsX1_aheadOf) := goodIn_app (goodIn_of _ (by decide +kernel)) ggX4_visitor_X1_aheadOf
set_option maxRecDepth 20000 in
theorem ggX4_visitor_X1_ownCard : GoodIn wsX4_visitor wsX1_ownCard := goodIn_r _ [33, 11, 63] (by decide +kernel) (by decide +kernel)
set_option maxRecDepth 20000 in
theorem gX4_visitor_X1_ownCard : GoodIn wsX4_visitor (wsV RX4 128 RX1 yX1_ownCard wsX1_ownCard) := goodIn_app (goodIn_of _ (by decide +kernel)) ggX4_visitor_X1_ownCard
set_option maxRecDepth 20000 in
theorem ggX4_visitor_X1_ticket : GoodIn wsX4_visitor wsX1_ticket := goodIn_r _ [37, 11, 63] (by decide +kernel) (by decide +kernel)
set_option maxRecDepth 20000 in
theorem gX4_visitor_X1_ticket : GoodIn wsX4_visitor (wsV RX4 131 RX1 yX1_ticket wsX1_ticket) := goodIn_app (goodIn_of _ (by decide +kernel)) ggX4_visitor_X1_ticket
set_option maxRecDepth 20000 in
theorem ggX4_visitor_X1_flagOf : GoodIn wsX4_visitor wsX1_flagOf := goodIn_r _ [41, 11, 26, 27, 28, 9, 29, 63] (by decide +kernel) (by decide +kernel)
set_option maxRecDepth 20000 in
theorem gX4_visitor_X1_flagOf : GoodIn wsX4_visitor (wsV RX4 134 RX1 yX1_flagOf wsX1_flagOf) := goodIn_app (goodIn_of _ (by decide +kernel)) ggX4_visitor_X1_flagOf
set_option maxRecDepth 20000 in
theorem ggX4_visitor_X3_placeOf : GoodIn wsX4_visitor wsX3_placeOf := goodIn_r _ [45, 46, 47, 58, 59, 60, 61, 62] (by decide +kernel) (by decide +kernel)
set_option maxRecDepth 20000 in
theorem gX4_visitor_X3_placeOf : GoodIn wsX4_visitor (wsV RX4 137 RX3 yX3_placeOf wsX3_placeOf) := goodIn_app (goodIn_of _ (by decide +kernel)) ggX4_visitor_X3_placeOf
theorem dX4_visitor_0 : decode cX4_visitor 0 = .ok (.iload_n 1, 1) := by decide +kernel
theorem dX4_visitor_1 : decode cX4_visitor 1 = .ok (.invokestatic 75, 3) := by decide +kernel
theorem dX4_visitor_4 : decode cX4_visitor 4 = .ok (.ifCond .ne 5, 3) := by decide +kernel
theorem dX4_visitor_7 : decode cX4_visitor 7 = .ok (.iconst (-1), 1) := by decide +kernel
theorem dX4_visitor_8 : decode cX4_visitor 8 = .ok (.ireturn, 1) := by decide +kernel
theorem dX4_visitor_9 : decode cX4_visitor 9 = .ok (.iload_n 2, 1) := by decide +kernel
theorem dX4_visitor_10 : decode cX4_visitor 10 = .ok (.tableswitch 182 0 10 #[58, 70, 80, 91, 102, 113, 125, 137, 149, 161, 173], 58) := by decide +kernel
theorem dX4_visitor_68 : decode cX4_visitor 68 = .ok (.aload_n 0, 1) := by decide +kernel
theorem dX4_visitor_69 : decode cX4_visitor 69 = .ok (.getfield 12, 3) := by decide +kernel
theorem dX4_visitor_72 : decode cX4_visitor 72 = .ok (.getfield 62, 3) := by decide +kernel
theorem dX4_visitor_75 : decode cX4_visitor 75 = .ok (.iload_n 1, 1) := by decide +kernel
theorem dX4_visitor_76 : decode cX4_visitor 76 = .ok (.invokevirtual 82, 3) := by decide +kernel
theorem dX4_visitor_79 : decode cX4_visitor 79 = .ok (.ireturn, 1) := by decide +kernel
theorem dX4_visitor_80 : decode cX4_visitor 80 = .ok (.aload_n 0, 1) := by decide +kernel
theorem dX4_visitor_81 : decode cX4_visitor 81 = .ok (.getfield 12, 3) := by decide +kernel
theorem dX4_visitor_84 : decode cX4_visitor 84 = .ok (.iconst 0, 1) := by decide +kernel
theorem dX4_visitor_85 : decode cX4_visitor 85 = .ok (.iload_n 1, 1) := by decide +kernel
theorem dX4_visitor_86 : decode cX4_visitor 86 = .ok (.invokevirtual 118, 3) := by decide +kernel
theorem dX4_visitor_89 : decode cX4_visitor 89 = .ok (.ireturn, 1) := by decide +kernel
theorem dX4_visitor_90 : decode cX4_visitor 90 = .ok (.aload_n 0, 1) := by decide +kernel
theorem dX4_visitor_91 : decode cX4_visitor 91 = .ok (.getfield 12, 3) := by decide +kernel
theorem dX4_visitor_94 : decode cX4_visitor 94 = .ok (.bipush 6, 2) := by decide +kernel
theorem dX4_visitor_96 : decode cX4_visitor 96 = .ok (.iload_n 1, 1) := by decide +kernel
theorem dX4_visitor_97 : decode cX4_visitor 97 = .ok (.invokevirtual 118, 3) := by decide +kernel
theorem dX4_visitor_100 : decode cX4_visitor 100 = .ok (.ireturn, 1) := by decide +kernel
theorem dX4_visitor_101 : decode cX4_visitor 101 = .ok (.aload_n 0, 1) := by decide +kernel
theorem dX4_visitor_102 : decode cX4_visitor 102 = .ok (.getfield 12, 3) := by decide +kernel
theorem dX4_visitor_105 : decode cX4_visitor 105 = .ok (.bipush 12, 2) := by decide +kernel
theorem dX4_visitor_107 : decode cX4_visitor 107 = .ok (.iload_n 1, 1) := by decide +kernel
theorem dX4_visitor_108 : decode cX4_visitor 108 = .ok (.invokevirtual 118, 3) := by decide +kernel
theorem dX4_visitor_111 : decode cX4_visitor 111 = .ok (.ireturn, 1) := by decide +kernel
theorem dX4_visitor_112 : decode cX4_visitor 112 = .ok (.aload_n 0, 1) := by decide +kernel
theorem dX4_visitor_113 : decode cX4_visitor 113 = .ok (.getfield 12, 3) := by decide +kernel
theorem dX4_visitor_116 : decode cX4_visitor 116 = .ok (.bipush 18, 2) := by decide +kernel
theorem dX4_visitor_118 : decode cX4_visitor 118 = .ok (.iload_n 1, 1) := by decide +kernel
theorem dX4_visitor_119 : decode cX4_visitor 119 = .ok (.invokevirtual 118, 3) := by decide +kernel
theorem dX4_visitor_122 : decode cX4_visitor 122 = .ok (.ireturn, 1) := by decide +kernel
theorem dX4_visitor_123 : decode cX4_visitor 123 = .ok (.aload_n 0, 1) := by decide +kernel
theorem dX4_visitor_124 : decode cX4_visitor 124 = .ok (.getfield 12, 3) := by decide +kernel
theorem dX4_visitor_127 : decode cX4_visitor 127 = .ok (.getfield 62, 3) := by decide +kernel
theorem dX4_visitor_130 : decode cX4_visitor 130 = .ok (.iload_n 1, 1) := by decide +kernel
theorem dX4_visitor_131 : decode cX4_visitor 131 = .ok (.invokevirtual 122, 3) := by decide +kernel
theorem dX4_visitor_134 : decode cX4_visitor 134 = .ok (.ireturn, 1) := by decide +kernel
theorem dX4_visitor_135 : decode cX4_visitor 135 = .ok (.aload_n 0, 1) := by decide +kernel
theorem dX4_visitor_136 : decode cX4_visitor 136 = .ok (.getfield 12, 3) := by decide +kernel
theorem dX4_visitor_139 : decode cX4_visitor 139 = .ok (.getfield 62, 3) := by decide +kernel
theorem dX4_visitor_142 : decode cX4_visitor 142 = .ok (.iload_n 1, 1) := by decide +kernel
theorem dX4_visitor_143 : decode cX4_visitor 143 = .ok (.invokevirtual 125, 3) := by decide +kernel
theorem dX4_visitor_146 : decode cX4_visitor 146 = .ok (.ireturn, 1) := by decide +kernel
theorem dX4_visitor_147 : decode cX4_visitor 147 = .ok (.aload_n 0, 1) := by decide +kernel
theorem dX4_visitor_148 : decode cX4_visitor 148 = .ok (.getfield 12, 3) := by decide +kernel
theorem dX4_visitor_151 : decode cX4_visitor 151 = .ok (.getfield 62, 3) := by decide +kernel
theorem dX4_visitor_154 : decode cX4_visitor 154 = .ok (.iload_n 1, 1) := by decide +kernel
theorem dX4_visitor_155 : decode cX4_visitor 155 = .ok (.invokevirtual 128, 3) := by decide +kernel
theorem dX4_visitor_158 : decode cX4_visitor 158 = .ok (.ireturn, 1) := by decide +kernel
theorem dX4_visitor_159 : decode cX4_visitor 159 = .ok (.aload_n 0, 1) := by decide +kernel
theorem dX4_visitor_160 : decode cX4_visitor 160 = .ok (.getfield 12, 3) := by decide +kernel
theorem dX4_visitor_163 : decode cX4_visitor 163 = .ok (.getfield 62, 3) := by decide +kernel
theorem dX4_visitor_166 : decode cX4_visitor 166 = .ok (.iload_n 1, 1) := by decide +kernel
theorem dX4_visitor_167 : decode cX4_visitor 167 = .ok (.invokevirtual 131, 3) := by decide +kernel
theorem dX4_visitor_170 : decode cX4_visitor 170 = .ok (.ireturn, 1) := by decide +kernel
theorem dX4_visitor_171 : decode cX4_visitor 171 = .ok (.aload_n 0, 1) := by decide +kernel
theorem dX4_visitor_172 : decode cX4_visitor 172 = .ok (.getfield 12, 3) := by decide +kernel
theorem dX4_visitor_175 : decode cX4_visitor 175 = .ok (.getfield 62, 3) := by decide +kernel
theorem dX4_visitor_178 : decode cX4_visitor 178 = .ok (.iload_n 1, 1) := by decide +kernel
theorem dX4_visitor_179 : decode cX4_visitor 179 = .ok (.invokevirtual 134, 3) := by decide +kernel
theorem dX4_visitor_182 : decode cX4_visitor 182 = .ok (.ireturn, 1) := by decide +kernel
theorem dX4_visitor_183 : decode cX4_visitor 183 = .ok (.aload_n 0, 1) := by decide +kernel
theorem dX4_visitor_184 : decode cX4_visitor 184 = .ok (.getfield 12, 3) := by decide +kernel
theorem dX4_visitor_187 : decode cX4_visitor 187 = .ok (.iload_n 1, 1) := by decide +kernel
theorem dX4_visitor_188 : decode cX4_visitor 188 = .ok (.invokevirtual 137, 3) := by decide +kernel
theorem dX4_visitor_191 : decode cX4_visitor 191 = .ok (.ireturn, 1) := by decide +kernel
theorem dX4_visitor_192 : decode cX4_visitor 192 = .ok (.bipush (-2), 2) := by decide +kernel
theorem dX4_visitor_194 : decode cX4_visitor 194 = .ok (.ireturn, 1) := by decide +kernel
set_option maxRecDepth 20000 in
theorem ggX4_inLine_X3_visitorAt : GoodIn wsX4_inLine wsX3_visitorAt := goodIn_r _ [6, 7, 8, 19, 20, 21, 22, 23] (by decide +kernel) (by decide +kernel)
set_option maxRecDepth 20000 in
theorem gX4_inLine_X3_visitorAt : GoodIn wsX4_inLine (wsV RX4 140 RX3 yX3_visitorAt wsX3_visitorAt) := goodIn_app (goodIn_of _ (by decide +kernel)) ggX4_inLine_X3_visitorAt
theorem dX4_inLine_0 : decode cX4_inLine 0 = .ok (.iload_n 1, 1) := by decide +kernel
theorem dX4_inLine_1 : decode cX4_inLine 1 = .ok (.ifCond .ge 6, 3) := by decide +kernel
theorem dX4_inLine_4 : decode cX4_inLine 4 = .ok (.bipush (-2), 2) := by decide +kernel
theorem dX4_inLine_6 : decode cX4_inLine 6 = .ok (.ireturn, 1) := by decide +kernel
theorem dX4_inLine_7 : decode cX4_inLine 7 = .ok (.aload_n 0, 1) := by decide +kernel
theorem dX4_inLine_8 : decode cX4_inLine 8 = .ok (.getfield 12, 3) := by decide +kernel
theorem dX4_inLine_11 : decode cX4_inLine 11 = .ok (.iload_n 1, 1) := by decide +kernel
theorem dX4_inLine_12 : decode cX4_inLine 12 = .ok (.invokevirtual 140, 3) := by decide +kernel
theorem dX4_inLine_15 : decode cX4_inLine 15 = .ok (.ireturn, 1) := by decide +kernel
set_option maxRecDepth 20000 in
theorem ggX4_card_X4_isCard : GoodIn wsX4_card wsX4_isCard := goodIn_r _ [5] (by decide +kernel) (by decide +kernel)
set_option maxRecDepth 20000 in
theorem gX4_card_X4_isCard : GoodIn wsX4_card (va_wsS RX4 141 yX4_isCard wsX4_isCard) := goodIn_app (goodIn_of _ (by decide +kernel)) ggX4_card_X4_isCard
set_option maxRecDepth 20000 in
theorem ggX4_card_X1_kind : GoodIn wsX4_card wsX1_kind := goodIn_r _ [10, 11, 31] (by decide +kernel) (by decide +kernel)
set_option maxRecDepth 20000 in
theorem gX4_card_X1_kind : GoodIn wsX4_card (wsV RX4 66 RX1 yX1_kind wsX1_kind) := goodIn_app (goodIn_of _ (by decide +kernel)) ggX4_card_X1_kind
set_option maxRecDepth 20000 in
theorem ggX4_card_X1_cardFlag : GoodIn wsX4_card wsX1_cardFlag := goodIn_r _ [15, 11, 3, 4, 5, 31] (by decide +kernel) (by decide +kernel)
set_option maxRecDepth 20000 in
theorem gX4_card_X1_cardFlag : GoodIn wsX4_card (wsV RX4 144 RX1 yX1_cardFlag wsX1_cardFlag) := goodIn_app (goodIn_of _ (by decide +kernel)) ggX4_card_X1_cardFlag
theorem dX4_card_0 : decode cX4_card 0 = .ok (.iload_n 1, 1) := by decide +kernel
theorem dX4_card_1 : decode cX4_card 1 = .ok (.invokestatic 141, 3) := by decide +kernel
theorem dX4_card_4 : decode cX4_card 4 = .ok (.ifCond .ne 5, 3) := by decide +kernel
theorem dX4_card_7 : decode cX4_card 7 = .ok (.iconst (-1), 1) := by decide +kernel
theorem dX4_card_8 : decode cX4_card 8 = .ok (.ireturn, 1) := by decide +kernel
theorem dX4_card_9 : decode cX4_card 9 = .ok (.aload_n 0, 1) := by decide +kernel
theorem dX4_card_10 : decode cX4_card 10 = .ok (.getfield 12, 3) := by decide +kernel
theorem dX4_card_13 : decode cX4_card 13 = .ok (.getfield 62, 3) := by decide +kernel
theorem dX4_card_16 : decode cX4_card 16 = .ok (.invokevirtual 66, 3) := by decide +kernel
theorem dX4_card_19 : decode cX4_card 19 = .ok (.iconst 1, 1) := by decide +kernel
theorem dX4_card_20 : decode cX4_card 20 = .ok (.if_icmp .eq 6, 3) := by decide +kernel
theorem dX4_card_23 : decode cX4_card 23 = .ok (.bipush (-5), 2) := by decide +kernel
theorem dX4_card_25 : decode cX4_card 25 = .ok (.ireturn, 1) := by decide +kernel
theorem dX4_card_26 : decode cX4_card 26 = .ok (.aload_n 0, 1) := by decide +kernel
