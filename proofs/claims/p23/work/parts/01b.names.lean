theorem dX0_countStuck_7 : decode cX0_countStuck 7 = .ok (.aload_n 0, 1) := by decide +kernel
theorem dX0_countStuck_8 : decode cX0_countStuck 8 = .ok (.getfield 26, 3) := by decide +kernel
theorem dX0_countStuck_11 : decode cX0_countStuck 11 = .ok (.if_icmp .ge 31, 3) := by decide +kernel
theorem dX0_countStuck_14 : decode cX0_countStuck 14 = .ok (.iload 4, 2) := by decide +kernel
theorem dX0_countStuck_16 : decode cX0_countStuck 16 = .ok (.sipush 300, 3) := by decide +kernel
theorem dX0_countStuck_19 : decode cX0_countStuck 19 = .ok (.if_icmp .ge 23, 3) := by decide +kernel
theorem dX0_countStuck_22 : decode cX0_countStuck 22 = .ok (.aload_n 0, 1) := by decide +kernel
theorem dX0_countStuck_23 : decode cX0_countStuck 23 = .ok (.iload 4, 2) := by decide +kernel
theorem dX0_countStuck_25 : decode cX0_countStuck 25 = .ok (.iload_n 1, 1) := by decide +kernel
theorem dX0_countStuck_26 : decode cX0_countStuck 26 = .ok (.iload_n 2, 1) := by decide +kernel
theorem dX0_countStuck_27 : decode cX0_countStuck 27 = .ok (.invokevirtual 57, 3) := by decide +kernel
theorem dX0_countStuck_30 : decode cX0_countStuck 30 = .ok (.ifCond .eq 6, 3) := by decide +kernel
theorem dX0_countStuck_33 : decode cX0_countStuck 33 = .ok (.iinc 3 1, 3) := by decide +kernel
theorem dX0_countStuck_36 : decode cX0_countStuck 36 = .ok (.iinc 4 1, 3) := by decide +kernel
theorem dX0_countStuck_39 : decode cX0_countStuck 39 = .ok (.goto (-34), 3) := by decide +kernel
theorem dX0_countStuck_42 : decode cX0_countStuck 42 = .ok (.iload_n 3, 1) := by decide +kernel
theorem dX0_countStuck_43 : decode cX0_countStuck 43 = .ok (.ireturn, 1) := by decide +kernel
set_option maxRecDepth 20000 in
theorem ggX0_isStuck_X1_waits : GoodIn wsX0_isStuck wsX1_waits := goodIn_r _ [7, 8, 9, 10, 11, 6, 12, 13, 14, 15, 16, 17, 18, 19, 20, 21, 22, 23, 24, 25, 26, 27, 32] (by decide +kernel) (by decide +kernel)
set_option maxRecDepth 20000 in
theorem gX0_isStuck_X1_waits : GoodIn wsX0_isStuck (wsV RX0 60 RX1 yX1_waits wsX1_waits) := goodIn_app (goodIn_of _ (by decide +kernel)) ggX0_isStuck_X1_waits
theorem dX0_isStuck_0 : decode cX0_isStuck 0 = .ok (.aload_n 0, 1) := by decide +kernel
theorem dX0_isStuck_1 : decode cX0_isStuck 1 = .ok (.getfield 13, 3) := by decide +kernel
theorem dX0_isStuck_4 : decode cX0_isStuck 4 = .ok (.iload_n 1, 1) := by decide +kernel
theorem dX0_isStuck_5 : decode cX0_isStuck 5 = .ok (.aaload, 1) := by decide +kernel
theorem dX0_isStuck_6 : decode cX0_isStuck 6 = .ok (.astore 4, 2) := by decide +kernel
theorem dX0_isStuck_8 : decode cX0_isStuck 8 = .ok (.aload 4, 2) := by decide +kernel
theorem dX0_isStuck_10 : decode cX0_isStuck 10 = .ok (.ifnull 13, 3) := by decide +kernel
theorem dX0_isStuck_13 : decode cX0_isStuck 13 = .ok (.aload_n 0, 1) := by decide +kernel
theorem dX0_isStuck_14 : decode cX0_isStuck 14 = .ok (.getfield 17, 3) := by decide +kernel
theorem dX0_isStuck_17 : decode cX0_isStuck 17 = .ok (.iload_n 1, 1) := by decide +kernel
theorem dX0_isStuck_18 : decode cX0_isStuck 18 = .ok (.iaload, 1) := by decide +kernel
theorem dX0_isStuck_19 : decode cX0_isStuck 19 = .ok (.iconst 3, 1) := by decide +kernel
theorem dX0_isStuck_20 : decode cX0_isStuck 20 = .ok (.if_icmp .ne 5, 3) := by decide +kernel
theorem dX0_isStuck_23 : decode cX0_isStuck 23 = .ok (.iconst 0, 1) := by decide +kernel
theorem dX0_isStuck_24 : decode cX0_isStuck 24 = .ok (.ireturn, 1) := by decide +kernel
theorem dX0_isStuck_25 : decode cX0_isStuck 25 = .ok (.aload_n 0, 1) := by decide +kernel
theorem dX0_isStuck_26 : decode cX0_isStuck 26 = .ok (.getfield 17, 3) := by decide +kernel
theorem dX0_isStuck_29 : decode cX0_isStuck 29 = .ok (.iload_n 1, 1) := by decide +kernel
theorem dX0_isStuck_30 : decode cX0_isStuck 30 = .ok (.iaload, 1) := by decide +kernel
theorem dX0_isStuck_31 : decode cX0_isStuck 31 = .ok (.iconst 1, 1) := by decide +kernel
theorem dX0_isStuck_32 : decode cX0_isStuck 32 = .ok (.iand, 1) := by decide +kernel
theorem dX0_isStuck_33 : decode cX0_isStuck 33 = .ok (.ifCond .ne 12, 3) := by decide +kernel
theorem dX0_isStuck_36 : decode cX0_isStuck 36 = .ok (.aload 4, 2) := by decide +kernel
theorem dX0_isStuck_38 : decode cX0_isStuck 38 = .ok (.iload_n 2, 1) := by decide +kernel
theorem dX0_isStuck_39 : decode cX0_isStuck 39 = .ok (.invokevirtual 60, 3) := by decide +kernel
theorem dX0_isStuck_42 : decode cX0_isStuck 42 = .ok (.ifCond .eq 7, 3) := by decide +kernel
theorem dX0_isStuck_45 : decode cX0_isStuck 45 = .ok (.iconst 1, 1) := by decide +kernel
theorem dX0_isStuck_46 : decode cX0_isStuck 46 = .ok (.goto 4, 3) := by decide +kernel
theorem dX0_isStuck_49 : decode cX0_isStuck 49 = .ok (.iconst 0, 1) := by decide +kernel
theorem dX0_isStuck_50 : decode cX0_isStuck 50 = .ok (.istore 5, 2) := by decide +kernel
theorem dX0_isStuck_52 : decode cX0_isStuck 52 = .ok (.aload_n 0, 1) := by decide +kernel
theorem dX0_isStuck_53 : decode cX0_isStuck 53 = .ok (.getfield 17, 3) := by decide +kernel
theorem dX0_isStuck_56 : decode cX0_isStuck 56 = .ok (.iload_n 1, 1) := by decide +kernel
theorem dX0_isStuck_57 : decode cX0_isStuck 57 = .ok (.iaload, 1) := by decide +kernel
theorem dX0_isStuck_58 : decode cX0_isStuck 58 = .ok (.iconst 2, 1) := by decide +kernel
theorem dX0_isStuck_59 : decode cX0_isStuck 59 = .ok (.iand, 1) := by decide +kernel
theorem dX0_isStuck_60 : decode cX0_isStuck 60 = .ok (.ifCond .ne 12, 3) := by decide +kernel
theorem dX0_isStuck_63 : decode cX0_isStuck 63 = .ok (.aload 4, 2) := by decide +kernel
theorem dX0_isStuck_65 : decode cX0_isStuck 65 = .ok (.iload_n 3, 1) := by decide +kernel
theorem dX0_isStuck_66 : decode cX0_isStuck 66 = .ok (.invokevirtual 60, 3) := by decide +kernel
theorem dX0_isStuck_69 : decode cX0_isStuck 69 = .ok (.ifCond .eq 7, 3) := by decide +kernel
theorem dX0_isStuck_72 : decode cX0_isStuck 72 = .ok (.iconst 1, 1) := by decide +kernel
theorem dX0_isStuck_73 : decode cX0_isStuck 73 = .ok (.goto 4, 3) := by decide +kernel
theorem dX0_isStuck_76 : decode cX0_isStuck 76 = .ok (.iconst 0, 1) := by decide +kernel
theorem dX0_isStuck_77 : decode cX0_isStuck 77 = .ok (.istore 6, 2) := by decide +kernel
theorem dX0_isStuck_79 : decode cX0_isStuck 79 = .ok (.iload 5, 2) := by decide +kernel
theorem dX0_isStuck_81 : decode cX0_isStuck 81 = .ok (.ifCond .eq 12, 3) := by decide +kernel
theorem dX0_isStuck_84 : decode cX0_isStuck 84 = .ok (.iload 6, 2) := by decide +kernel
theorem dX0_isStuck_86 : decode cX0_isStuck 86 = .ok (.ifCond .eq 7, 3) := by decide +kernel
theorem dX0_isStuck_89 : decode cX0_isStuck 89 = .ok (.iconst 1, 1) := by decide +kernel
theorem dX0_isStuck_90 : decode cX0_isStuck 90 = .ok (.goto 4, 3) := by decide +kernel
theorem dX0_isStuck_93 : decode cX0_isStuck 93 = .ok (.iconst 0, 1) := by decide +kernel
theorem dX0_isStuck_94 : decode cX0_isStuck 94 = .ok (.ireturn, 1) := by decide +kernel
set_option maxRecDepth 20000 in
theorem ggX1_init_X1_reset : GoodIn wsX1_init wsX1_reset := goodIn_r _ [10, 5, 11] (by decide +kernel) (by decide +kernel)
set_option maxRecDepth 20000 in
theorem gX1_init_X1_reset : GoodIn wsX1_init (wsV RX1 15 RX1 yX1_reset wsX1_reset) := goodIn_app (goodIn_of _ (by decide +kernel)) ggX1_init_X1_reset
theorem dX1_init_0 : decode cX1_init 0 = .ok (.aload_n 0, 1) := by decide +kernel
theorem dX1_init_1 : decode cX1_init 1 = .ok (.invokespecial 5, 3) := by decide +kernel
theorem dX1_init_4 : decode cX1_init 4 = .ok (.aload_n 0, 1) := by decide +kernel
theorem dX1_init_5 : decode cX1_init 5 = .ok (.bipush 54, 2) := by decide +kernel
theorem dX1_init_7 : decode cX1_init 7 = .ok (.newarray .int, 2) := by decide +kernel
theorem dX1_init_9 : decode cX1_init 9 = .ok (.putfield 11, 3) := by decide +kernel
theorem dX1_init_12 : decode cX1_init 12 = .ok (.aload_n 0, 1) := by decide +kernel
theorem dX1_init_13 : decode cX1_init 13 = .ok (.iconst 0, 1) := by decide +kernel
theorem dX1_init_14 : decode cX1_init 14 = .ok (.invokevirtual 15, 3) := by decide +kernel
theorem dX1_init_17 : decode cX1_init 17 = .ok (.return_, 1) := by decide +kernel
theorem dX1_reset_0 : decode cX1_reset 0 = .ok (.iconst 0, 1) := by decide +kernel
theorem dX1_reset_1 : decode cX1_reset 1 = .ok (.istore_n 2, 1) := by decide +kernel
theorem dX1_reset_2 : decode cX1_reset 2 = .ok (.iload_n 2, 1) := by decide +kernel
theorem dX1_reset_3 : decode cX1_reset 3 = .ok (.bipush 6, 2) := by decide +kernel
theorem dX1_reset_5 : decode cX1_reset 5 = .ok (.if_icmp .ge 92, 3) := by decide +kernel
theorem dX1_reset_8 : decode cX1_reset 8 = .ok (.aload_n 0, 1) := by decide +kernel
theorem dX1_reset_9 : decode cX1_reset 9 = .ok (.getfield 11, 3) := by decide +kernel
theorem dX1_reset_12 : decode cX1_reset 12 = .ok (.iconst 0, 1) := by decide +kernel
theorem dX1_reset_13 : decode cX1_reset 13 = .ok (.iload_n 2, 1) := by decide +kernel
theorem dX1_reset_14 : decode cX1_reset 14 = .ok (.iadd, 1) := by decide +kernel
theorem dX1_reset_15 : decode cX1_reset 15 = .ok (.iconst 0, 1) := by decide +kernel
theorem dX1_reset_16 : decode cX1_reset 16 = .ok (.iastore, 1) := by decide +kernel
theorem dX1_reset_17 : decode cX1_reset 17 = .ok (.aload_n 0, 1) := by decide +kernel
theorem dX1_reset_18 : decode cX1_reset 18 = .ok (.getfield 11, 3) := by decide +kernel
theorem dX1_reset_21 : decode cX1_reset 21 = .ok (.bipush 6, 2) := by decide +kernel
theorem dX1_reset_23 : decode cX1_reset 23 = .ok (.iload_n 2, 1) := by decide +kernel
theorem dX1_reset_24 : decode cX1_reset 24 = .ok (.iadd, 1) := by decide +kernel
theorem dX1_reset_25 : decode cX1_reset 25 = .ok (.bipush (-5), 2) := by decide +kernel
theorem dX1_reset_27 : decode cX1_reset 27 = .ok (.iastore, 1) := by decide +kernel
theorem dX1_reset_28 : decode cX1_reset 28 = .ok (.aload_n 0, 1) := by decide +kernel
theorem dX1_reset_29 : decode cX1_reset 29 = .ok (.getfield 11, 3) := by decide +kernel
theorem dX1_reset_32 : decode cX1_reset 32 = .ok (.bipush 12, 2) := by decide +kernel
theorem dX1_reset_34 : decode cX1_reset 34 = .ok (.iload_n 2, 1) := by decide +kernel
theorem dX1_reset_35 : decode cX1_reset 35 = .ok (.iadd, 1) := by decide +kernel
theorem dX1_reset_36 : decode cX1_reset 36 = .ok (.iconst 0, 1) := by decide +kernel
theorem dX1_reset_37 : decode cX1_reset 37 = .ok (.iastore, 1) := by decide +kernel
theorem dX1_reset_38 : decode cX1_reset 38 = .ok (.aload_n 0, 1) := by decide +kernel
theorem dX1_reset_39 : decode cX1_reset 39 = .ok (.getfield 11, 3) := by decide +kernel
theorem dX1_reset_42 : decode cX1_reset 42 = .ok (.bipush 18, 2) := by decide +kernel
theorem dX1_reset_44 : decode cX1_reset 44 = .ok (.iload_n 2, 1) := by decide +kernel
theorem dX1_reset_45 : decode cX1_reset 45 = .ok (.iadd, 1) := by decide +kernel
theorem dX1_reset_46 : decode cX1_reset 46 = .ok (.bipush (-5), 2) := by decide +kernel
theorem dX1_reset_48 : decode cX1_reset 48 = .ok (.iastore, 1) := by decide +kernel
theorem dX1_reset_49 : decode cX1_reset 49 = .ok (.aload_n 0, 1) := by decide +kernel
theorem dX1_reset_50 : decode cX1_reset 50 = .ok (.getfield 11, 3) := by decide +kernel
theorem dX1_reset_53 : decode cX1_reset 53 = .ok (.bipush 24, 2) := by decide +kernel
theorem dX1_reset_55 : decode cX1_reset 55 = .ok (.iload_n 2, 1) := by decide +kernel
theorem dX1_reset_56 : decode cX1_reset 56 = .ok (.iadd, 1) := by decide +kernel
theorem dX1_reset_57 : decode cX1_reset 57 = .ok (.iload_n 1, 1) := by decide +kernel
theorem dX1_reset_58 : decode cX1_reset 58 = .ok (.iconst 1, 1) := by decide +kernel
theorem dX1_reset_59 : decode cX1_reset 59 = .ok (.if_icmp .ne 7, 3) := by decide +kernel
theorem dX1_reset_62 : decode cX1_reset 62 = .ok (.iload_n 2, 1) := by decide +kernel
theorem dX1_reset_63 : decode cX1_reset 63 = .ok (.goto 5, 3) := by decide +kernel
theorem dX1_reset_66 : decode cX1_reset 66 = .ok (.bipush (-5), 2) := by decide +kernel
theorem dX1_reset_68 : decode cX1_reset 68 = .ok (.iastore, 1) := by decide +kernel
theorem dX1_reset_69 : decode cX1_reset 69 = .ok (.aload_n 0, 1) := by decide +kernel
theorem dX1_reset_70 : decode cX1_reset 70 = .ok (.getfield 11, 3) := by decide +kernel
theorem dX1_reset_73 : decode cX1_reset 73 = .ok (.bipush 30, 2) := by decide +kernel
theorem dX1_reset_75 : decode cX1_reset 75 = .ok (.iload_n 2, 1) := by decide +kernel
theorem dX1_reset_76 : decode cX1_reset 76 = .ok (.iadd, 1) := by decide +kernel
theorem dX1_reset_77 : decode cX1_reset 77 = .ok (.bipush (-5), 2) := by decide +kernel
theorem dX1_reset_79 : decode cX1_reset 79 = .ok (.iastore, 1) := by decide +kernel
theorem dX1_reset_80 : decode cX1_reset 80 = .ok (.aload_n 0, 1) := by decide +kernel
theorem dX1_reset_81 : decode cX1_reset 81 = .ok (.getfield 11, 3) := by decide +kernel
theorem dX1_reset_84 : decode cX1_reset 84 = .ok (.bipush 36, 2) := by decide +kernel
theorem dX1_reset_86 : decode cX1_reset 86 = .ok (.iload_n 2, 1) := by decide +kernel
theorem dX1_reset_87 : decode cX1_reset 87 = .ok (.iadd, 1) := by decide +kernel
theorem dX1_reset_88 : decode cX1_reset 88 = .ok (.bipush (-5), 2) := by decide +kernel
theorem dX1_reset_90 : decode cX1_reset 90 = .ok (.iastore, 1) := by decide +kernel
theorem dX1_reset_91 : decode cX1_reset 91 = .ok (.iinc 2 1, 3) := by decide +kernel
theorem dX1_reset_94 : decode cX1_reset 94 = .ok (.goto (-92), 3) := by decide +kernel
theorem dX1_reset_97 : decode cX1_reset 97 = .ok (.iconst 0, 1) := by decide +kernel
theorem dX1_reset_98 : decode cX1_reset 98 = .ok (.istore_n 2, 1) := by decide +kernel
theorem dX1_reset_99 : decode cX1_reset 99 = .ok (.iload_n 2, 1) := by decide +kernel
theorem dX1_reset_100 : decode cX1_reset 100 = .ok (.bipush 7, 2) := by decide +kernel
theorem dX1_reset_102 : decode cX1_reset 102 = .ok (.if_icmp .ge 19, 3) := by decide +kernel
theorem dX1_reset_105 : decode cX1_reset 105 = .ok (.aload_n 0, 1) := by decide +kernel
theorem dX1_reset_106 : decode cX1_reset 106 = .ok (.getfield 11, 3) := by decide +kernel
theorem dX1_reset_109 : decode cX1_reset 109 = .ok (.bipush 42, 2) := by decide +kernel
theorem dX1_reset_111 : decode cX1_reset 111 = .ok (.iload_n 2, 1) := by decide +kernel
theorem dX1_reset_112 : decode cX1_reset 112 = .ok (.iadd, 1) := by decide +kernel
theorem dX1_reset_113 : decode cX1_reset 113 = .ok (.iconst 0, 1) := by decide +kernel
theorem dX1_reset_114 : decode cX1_reset 114 = .ok (.iastore, 1) := by decide +kernel
theorem dX1_reset_115 : decode cX1_reset 115 = .ok (.iinc 2 1, 3) := by decide +kernel
theorem dX1_reset_118 : decode cX1_reset 118 = .ok (.goto (-19), 3) := by decide +kernel
theorem dX1_reset_121 : decode cX1_reset 121 = .ok (.aload_n 0, 1) := by decide +kernel
theorem dX1_reset_122 : decode cX1_reset 122 = .ok (.getfield 11, 3) := by decide +kernel
theorem dX1_reset_125 : decode cX1_reset 125 = .ok (.bipush 49, 2) := by decide +kernel
theorem dX1_reset_127 : decode cX1_reset 127 = .ok (.iload_n 1, 1) := by decide +kernel
theorem dX1_reset_128 : decode cX1_reset 128 = .ok (.iconst 1, 1) := by decide +kernel
theorem dX1_reset_129 : decode cX1_reset 129 = .ok (.if_icmp .ne 8, 3) := by decide +kernel
theorem dX1_reset_132 : decode cX1_reset 132 = .ok (.bipush 6, 2) := by decide +kernel
theorem dX1_reset_134 : decode cX1_reset 134 = .ok (.goto 5, 3) := by decide +kernel
theorem dX1_reset_137 : decode cX1_reset 137 = .ok (.bipush (-5), 2) := by decide +kernel
theorem dX1_reset_139 : decode cX1_reset 139 = .ok (.iastore, 1) := by decide +kernel
theorem dX1_reset_140 : decode cX1_reset 140 = .ok (.aload_n 0, 1) := by decide +kernel
theorem dX1_reset_141 : decode cX1_reset 141 = .ok (.getfield 11, 3) := by decide +kernel
theorem dX1_reset_144 : decode cX1_reset 144 = .ok (.bipush 50, 2) := by decide +kernel
theorem dX1_reset_146 : decode cX1_reset 146 = .ok (.iconst 0, 1) := by decide +kernel
theorem dX1_reset_147 : decode cX1_reset 147 = .ok (.iastore, 1) := by decide +kernel
theorem dX1_reset_148 : decode cX1_reset 148 = .ok (.aload_n 0, 1) := by decide +kernel
theorem dX1_reset_149 : decode cX1_reset 149 = .ok (.getfield 11, 3) := by decide +kernel
theorem dX1_reset_152 : decode cX1_reset 152 = .ok (.bipush 51, 2) := by decide +kernel
theorem dX1_reset_154 : decode cX1_reset 154 = .ok (.iconst 0, 1) := by decide +kernel
theorem dX1_reset_155 : decode cX1_reset 155 = .ok (.iastore, 1) := by decide +kernel
theorem dX1_reset_156 : decode cX1_reset 156 = .ok (.aload_n 0, 1) := by decide +kernel
theorem dX1_reset_157 : decode cX1_reset 157 = .ok (.getfield 11, 3) := by decide +kernel
theorem dX1_reset_160 : decode cX1_reset 160 = .ok (.bipush 52, 2) := by decide +kernel
theorem dX1_reset_162 : decode cX1_reset 162 = .ok (.iconst 0, 1) := by decide +kernel
theorem dX1_reset_163 : decode cX1_reset 163 = .ok (.iastore, 1) := by decide +kernel
theorem dX1_reset_164 : decode cX1_reset 164 = .ok (.aload_n 0, 1) := by decide +kernel
theorem dX1_reset_165 : decode cX1_reset 165 = .ok (.getfield 11, 3) := by decide +kernel
theorem dX1_reset_168 : decode cX1_reset 168 = .ok (.bipush 53, 2) := by decide +kernel
theorem dX1_reset_170 : decode cX1_reset 170 = .ok (.iload_n 1, 1) := by decide +kernel
theorem dX1_reset_171 : decode cX1_reset 171 = .ok (.iastore, 1) := by decide +kernel
theorem dX1_reset_172 : decode cX1_reset 172 = .ok (.return_, 1) := by decide +kernel
theorem dX1_copyFrom_0 : decode cX1_copyFrom 0 = .ok (.aload_n 1, 1) := by decide +kernel
theorem dX1_copyFrom_1 : decode cX1_copyFrom 1 = .ok (.getfield 11, 3) := by decide +kernel
theorem dX1_copyFrom_4 : decode cX1_copyFrom 4 = .ok (.iconst 0, 1) := by decide +kernel
theorem dX1_copyFrom_5 : decode cX1_copyFrom 5 = .ok (.aload_n 0, 1) := by decide +kernel
theorem dX1_copyFrom_6 : decode cX1_copyFrom 6 = .ok (.getfield 11, 3) := by decide +kernel
theorem dX1_copyFrom_9 : decode cX1_copyFrom 9 = .ok (.iconst 0, 1) := by decide +kernel
theorem dX1_copyFrom_10 : decode cX1_copyFrom 10 = .ok (.bipush 54, 2) := by decide +kernel
theorem dX1_copyFrom_12 : decode cX1_copyFrom 12 = .ok (.invokestatic 19, 3) := by decide +kernel
theorem dX1_copyFrom_15 : decode cX1_copyFrom 15 = .ok (.return_, 1) := by decide +kernel
theorem dX1_sameAs_0 : decode cX1_sameAs 0 = .ok (.iconst 0, 1) := by decide +kernel
theorem dX1_sameAs_1 : decode cX1_sameAs 1 = .ok (.istore_n 2, 1) := by decide +kernel
theorem dX1_sameAs_2 : decode cX1_sameAs 2 = .ok (.iload_n 2, 1) := by decide +kernel
theorem dX1_sameAs_3 : decode cX1_sameAs 3 = .ok (.bipush 54, 2) := by decide +kernel
theorem dX1_sameAs_5 : decode cX1_sameAs 5 = .ok (.if_icmp .ge 26, 3) := by decide +kernel
theorem dX1_sameAs_8 : decode cX1_sameAs 8 = .ok (.aload_n 0, 1) := by decide +kernel
theorem dX1_sameAs_9 : decode cX1_sameAs 9 = .ok (.getfield 11, 3) := by decide +kernel
theorem dX1_sameAs_12 : decode cX1_sameAs 12 = .ok (.iload_n 2, 1) := by decide +kernel
theorem dX1_sameAs_13 : decode cX1_sameAs 13 = .ok (.iaload, 1) := by decide +kernel
theorem dX1_sameAs_14 : decode cX1_sameAs 14 = .ok (.aload_n 1, 1) := by decide +kernel
theorem dX1_sameAs_15 : decode cX1_sameAs 15 = .ok (.getfield 11, 3) := by decide +kernel
theorem dX1_sameAs_18 : decode cX1_sameAs 18 = .ok (.iload_n 2, 1) := by decide +kernel
theorem dX1_sameAs_19 : decode cX1_sameAs 19 = .ok (.iaload, 1) := by decide +kernel
theorem dX1_sameAs_20 : decode cX1_sameAs 20 = .ok (.if_icmp .eq 5, 3) := by decide +kernel
theorem dX1_sameAs_23 : decode cX1_sameAs 23 = .ok (.iconst 0, 1) := by decide +kernel
theorem dX1_sameAs_24 : decode cX1_sameAs 24 = .ok (.ireturn, 1) := by decide +kernel
theorem dX1_sameAs_25 : decode cX1_sameAs 25 = .ok (.iinc 2 1, 3) := by decide +kernel
theorem dX1_sameAs_28 : decode cX1_sameAs 28 = .ok (.goto (-26), 3) := by decide +kernel
theorem dX1_sameAs_31 : decode cX1_sameAs 31 = .ok (.iconst 1, 1) := by decide +kernel
theorem dX1_sameAs_32 : decode cX1_sameAs 32 = .ok (.ireturn, 1) := by decide +kernel
theorem dX1_kind_0 : decode cX1_kind 0 = .ok (.aload_n 0, 1) := by decide +kernel
theorem dX1_kind_1 : decode cX1_kind 1 = .ok (.getfield 11, 3) := by decide +kernel
theorem dX1_kind_4 : decode cX1_kind 4 = .ok (.bipush 53, 2) := by decide +kernel
theorem dX1_kind_6 : decode cX1_kind 6 = .ok (.iaload, 1) := by decide +kernel
theorem dX1_kind_7 : decode cX1_kind 7 = .ok (.ireturn, 1) := by decide +kernel
theorem dX1_stage_0 : decode cX1_stage 0 = .ok (.aload_n 0, 1) := by decide +kernel
theorem dX1_stage_1 : decode cX1_stage 1 = .ok (.getfield 11, 3) := by decide +kernel
theorem dX1_stage_4 : decode cX1_stage 4 = .ok (.iconst 0, 1) := by decide +kernel
theorem dX1_stage_5 : decode cX1_stage 5 = .ok (.iload_n 1, 1) := by decide +kernel
theorem dX1_stage_6 : decode cX1_stage 6 = .ok (.iadd, 1) := by decide +kernel
theorem dX1_stage_7 : decode cX1_stage 7 = .ok (.iaload, 1) := by decide +kernel
theorem dX1_stage_8 : decode cX1_stage 8 = .ok (.ireturn, 1) := by decide +kernel
theorem dX1_nextOf_0 : decode cX1_nextOf 0 = .ok (.aload_n 0, 1) := by decide +kernel
theorem dX1_nextOf_1 : decode cX1_nextOf 1 = .ok (.getfield 11, 3) := by decide +kernel
theorem dX1_nextOf_4 : decode cX1_nextOf 4 = .ok (.bipush 6, 2) := by decide +kernel
theorem dX1_nextOf_6 : decode cX1_nextOf 6 = .ok (.iload_n 1, 1) := by decide +kernel
theorem dX1_nextOf_7 : decode cX1_nextOf 7 = .ok (.iadd, 1) := by decide +kernel
theorem dX1_nextOf_8 : decode cX1_nextOf 8 = .ok (.iaload, 1) := by decide +kernel
theorem dX1_nextOf_9 : decode cX1_nextOf 9 = .ok (.ireturn, 1) := by decide +kernel
set_option maxRecDepth 20000 in
theorem ggX1_aheadOf_X1_kind : GoodIn wsX1_aheadOf wsX1_kind := goodIn_r _ [6, 1, 7] (by decide +kernel) (by decide +kernel)
set_option maxRecDepth 20000 in
theorem gX1_aheadOf_X1_kind : GoodIn wsX1_aheadOf (wsV RX1 25 RX1 yX1_kind wsX1_kind) := goodIn_app (goodIn_of _ (by decide +kernel)) ggX1_aheadOf_X1_kind
theorem dX1_aheadOf_0 : decode cX1_aheadOf 0 = .ok (.aload_n 0, 1) := by decide +kernel
theorem dX1_aheadOf_1 : decode cX1_aheadOf 1 = .ok (.invokevirtual 25, 3) := by decide +kernel
theorem dX1_aheadOf_4 : decode cX1_aheadOf 4 = .ok (.iconst 1, 1) := by decide +kernel
theorem dX1_aheadOf_5 : decode cX1_aheadOf 5 = .ok (.if_icmp .ne 15, 3) := by decide +kernel
theorem dX1_aheadOf_8 : decode cX1_aheadOf 8 = .ok (.aload_n 0, 1) := by decide +kernel
theorem dX1_aheadOf_9 : decode cX1_aheadOf 9 = .ok (.getfield 11, 3) := by decide +kernel
theorem dX1_aheadOf_12 : decode cX1_aheadOf 12 = .ok (.bipush 30, 2) := by decide +kernel
theorem dX1_aheadOf_14 : decode cX1_aheadOf 14 = .ok (.iload_n 1, 1) := by decide +kernel
theorem dX1_aheadOf_15 : decode cX1_aheadOf 15 = .ok (.iadd, 1) := by decide +kernel
theorem dX1_aheadOf_16 : decode cX1_aheadOf 16 = .ok (.iaload, 1) := by decide +kernel
theorem dX1_aheadOf_17 : decode cX1_aheadOf 17 = .ok (.goto 12, 3) := by decide +kernel
theorem dX1_aheadOf_20 : decode cX1_aheadOf 20 = .ok (.aload_n 0, 1) := by decide +kernel
theorem dX1_aheadOf_21 : decode cX1_aheadOf 21 = .ok (.getfield 11, 3) := by decide +kernel
theorem dX1_aheadOf_24 : decode cX1_aheadOf 24 = .ok (.bipush 18, 2) := by decide +kernel
theorem dX1_aheadOf_26 : decode cX1_aheadOf 26 = .ok (.iload_n 1, 1) := by decide +kernel
theorem dX1_aheadOf_27 : decode cX1_aheadOf 27 = .ok (.iadd, 1) := by decide +kernel
theorem dX1_aheadOf_28 : decode cX1_aheadOf 28 = .ok (.iaload, 1) := by decide +kernel
theorem dX1_aheadOf_29 : decode cX1_aheadOf 29 = .ok (.ireturn, 1) := by decide +kernel
theorem dX1_ownCard_0 : decode cX1_ownCard 0 = .ok (.aload_n 0, 1) := by decide +kernel
theorem dX1_ownCard_1 : decode cX1_ownCard 1 = .ok (.getfield 11, 3) := by decide +kernel
theorem dX1_ownCard_4 : decode cX1_ownCard 4 = .ok (.bipush 24, 2) := by decide +kernel
theorem dX1_ownCard_6 : decode cX1_ownCard 6 = .ok (.iload_n 1, 1) := by decide +kernel
theorem dX1_ownCard_7 : decode cX1_ownCard 7 = .ok (.iadd, 1) := by decide +kernel
theorem dX1_ownCard_8 : decode cX1_ownCard 8 = .ok (.iaload, 1) := by decide +kernel
theorem dX1_ownCard_9 : decode cX1_ownCard 9 = .ok (.ireturn, 1) := by decide +kernel
theorem dX1_ticket_0 : decode cX1_ticket 0 = .ok (.aload_n 0, 1) := by decide +kernel
theorem dX1_ticket_1 : decode cX1_ticket 1 = .ok (.getfield 11, 3) := by decide +kernel
theorem dX1_ticket_4 : decode cX1_ticket 4 = .ok (.bipush 36, 2) := by decide +kernel
theorem dX1_ticket_6 : decode cX1_ticket 6 = .ok (.iload_n 1, 1) := by decide +kernel
theorem dX1_ticket_7 : decode cX1_ticket 7 = .ok (.iadd, 1) := by decide +kernel
theorem dX1_ticket_8 : decode cX1_ticket 8 = .ok (.iaload, 1) := by decide +kernel
theorem dX1_ticket_9 : decode cX1_ticket 9 = .ok (.ireturn, 1) := by decide +kernel
set_option maxRecDepth 20000 in
theorem ggX1_flagOf_X1_kind : GoodIn wsX1_flagOf wsX1_kind := goodIn_r _ [6, 1, 7] (by decide +kernel) (by decide +kernel)
set_option maxRecDepth 20000 in
theorem gX1_flagOf_X1_kind : GoodIn wsX1_flagOf (wsV RX1 25 RX1 yX1_kind wsX1_kind) := goodIn_app (goodIn_of _ (by decide +kernel)) ggX1_flagOf_X1_kind
theorem dX1_flagOf_0 : decode cX1_flagOf 0 = .ok (.aload_n 0, 1) := by decide +kernel
theorem dX1_flagOf_1 : decode cX1_flagOf 1 = .ok (.invokevirtual 25, 3) := by decide +kernel
theorem dX1_flagOf_4 : decode cX1_flagOf 4 = .ok (.ifCond .ne 15, 3) := by decide +kernel
theorem dX1_flagOf_7 : decode cX1_flagOf 7 = .ok (.aload_n 0, 1) := by decide +kernel
theorem dX1_flagOf_8 : decode cX1_flagOf 8 = .ok (.getfield 11, 3) := by decide +kernel
theorem dX1_flagOf_11 : decode cX1_flagOf 11 = .ok (.bipush 12, 2) := by decide +kernel
theorem dX1_flagOf_13 : decode cX1_flagOf 13 = .ok (.iload_n 1, 1) := by decide +kernel
theorem dX1_flagOf_14 : decode cX1_flagOf 14 = .ok (.iadd, 1) := by decide +kernel
theorem dX1_flagOf_15 : decode cX1_flagOf 15 = .ok (.iaload, 1) := by decide +kernel
theorem dX1_flagOf_16 : decode cX1_flagOf 16 = .ok (.goto 5, 3) := by decide +kernel
theorem dX1_flagOf_19 : decode cX1_flagOf 19 = .ok (.bipush (-5), 2) := by decide +kernel
theorem dX1_flagOf_21 : decode cX1_flagOf 21 = .ok (.ireturn, 1) := by decide +kernel
set_option maxRecDepth 20000 in
theorem ggX1_cardFlag_X4_isCard : GoodIn wsX1_cardFlag wsX4_isCard := goodIn_r _ [4] (by decide +kernel) (by decide +kernel)
set_option maxRecDepth 20000 in
theorem gX1_cardFlag_X4_isCard_n29 : GoodIn wsX1_cardFlag (wsX4_isCard) := ggX1_cardFlag_X4_isCard
theorem dX1_cardFlag_0 : decode cX1_cardFlag 0 = .ok (.iload_n 1, 1) := by decide +kernel
theorem dX1_cardFlag_1 : decode cX1_cardFlag 1 = .ok (.invokestatic 29, 3) := by decide +kernel
theorem dX1_cardFlag_4 : decode cX1_cardFlag 4 = .ok (.ifCond .eq 15, 3) := by decide +kernel
theorem dX1_cardFlag_7 : decode cX1_cardFlag 7 = .ok (.aload_n 0, 1) := by decide +kernel
theorem dX1_cardFlag_8 : decode cX1_cardFlag 8 = .ok (.getfield 11, 3) := by decide +kernel
theorem dX1_cardFlag_11 : decode cX1_cardFlag 11 = .ok (.bipush 42, 2) := by decide +kernel
theorem dX1_cardFlag_13 : decode cX1_cardFlag 13 = .ok (.iload_n 1, 1) := by decide +kernel
theorem dX1_cardFlag_14 : decode cX1_cardFlag 14 = .ok (.iadd, 1) := by decide +kernel
theorem dX1_cardFlag_15 : decode cX1_cardFlag 15 = .ok (.iaload, 1) := by decide +kernel
theorem dX1_cardFlag_16 : decode cX1_cardFlag 16 = .ok (.goto 5, 3) := by decide +kernel
theorem dX1_cardFlag_19 : decode cX1_cardFlag 19 = .ok (.bipush (-5), 2) := by decide +kernel
theorem dX1_cardFlag_21 : decode cX1_cardFlag 21 = .ok (.ireturn, 1) := by decide +kernel
theorem dX1_tail_0 : decode cX1_tail 0 = .ok (.aload_n 0, 1) := by decide +kernel
theorem dX1_tail_1 : decode cX1_tail 1 = .ok (.getfield 11, 3) := by decide +kernel
theorem dX1_tail_4 : decode cX1_tail 4 = .ok (.bipush 49, 2) := by decide +kernel
theorem dX1_tail_6 : decode cX1_tail 6 = .ok (.iaload, 1) := by decide +kernel
theorem dX1_tail_7 : decode cX1_tail 7 = .ok (.ireturn, 1) := by decide +kernel
set_option maxRecDepth 20000 in
theorem ggX1_given_X1_kind : GoodIn wsX1_given wsX1_kind := goodIn_r _ [6, 1, 7] (by decide +kernel) (by decide +kernel)
set_option maxRecDepth 20000 in
theorem gX1_given_X1_kind : GoodIn wsX1_given (wsV RX1 25 RX1 yX1_kind wsX1_kind) := goodIn_app (goodIn_of _ (by decide +kernel)) ggX1_given_X1_kind
theorem dX1_given_0 : decode cX1_given 0 = .ok (.aload_n 0, 1) := by decide +kernel
theorem dX1_given_1 : decode cX1_given 1 = .ok (.invokevirtual 25, 3) := by decide +kernel
theorem dX1_given_4 : decode cX1_given 4 = .ok (.iconst 2, 1) := by decide +kernel
theorem dX1_given_5 : decode cX1_given 5 = .ok (.if_icmp .ne 13, 3) := by decide +kernel
theorem dX1_given_8 : decode cX1_given 8 = .ok (.aload_n 0, 1) := by decide +kernel
theorem dX1_given_9 : decode cX1_given 9 = .ok (.getfield 11, 3) := by decide +kernel
theorem dX1_given_12 : decode cX1_given 12 = .ok (.bipush 50, 2) := by decide +kernel
theorem dX1_given_14 : decode cX1_given 14 = .ok (.iaload, 1) := by decide +kernel
theorem dX1_given_15 : decode cX1_given 15 = .ok (.goto 5, 3) := by decide +kernel
theorem dX1_given_18 : decode cX1_given 18 = .ok (.bipush (-5), 2) := by decide +kernel
theorem dX1_given_20 : decode cX1_given 20 = .ok (.ireturn, 1) := by decide +kernel
set_option maxRecDepth 20000 in
theorem ggX1_served_X1_kind : GoodIn wsX1_served wsX1_kind := goodIn_r _ [6, 1, 7] (by decide +kernel) (by decide +kernel)
set_option maxRecDepth 20000 in
theorem gX1_served_X1_kind : GoodIn wsX1_served (wsV RX1 25 RX1 yX1_kind wsX1_kind) := goodIn_app (goodIn_of _ (by decide +kernel)) ggX1_served_X1_kind
theorem dX1_served_0 : decode cX1_served 0 = .ok (.aload_n 0, 1) := by decide +kernel
theorem dX1_served_1 : decode cX1_served 1 = .ok (.invokevirtual 25, 3) := by decide +kernel
theorem dX1_served_4 : decode cX1_served 4 = .ok (.iconst 2, 1) := by decide +kernel
theorem dX1_served_5 : decode cX1_served 5 = .ok (.if_icmp .ne 13, 3) := by decide +kernel
theorem dX1_served_8 : decode cX1_served 8 = .ok (.aload_n 0, 1) := by decide +kernel
theorem dX1_served_9 : decode cX1_served 9 = .ok (.getfield 11, 3) := by decide +kernel
theorem dX1_served_12 : decode cX1_served 12 = .ok (.bipush 51, 2) := by decide +kernel
theorem dX1_served_14 : decode cX1_served 14 = .ok (.iaload, 1) := by decide +kernel
theorem dX1_served_15 : decode cX1_served 15 = .ok (.goto 5, 3) := by decide +kernel
theorem dX1_served_18 : decode cX1_served 18 = .ok (.bipush (-5), 2) := by decide +kernel
theorem dX1_served_20 : decode cX1_served 20 = .ok (.ireturn, 1) := by decide +kernel
set_option maxRecDepth 20000 in
theorem ggX1_grabFlag_X1_kind : GoodIn wsX1_grabFlag wsX1_kind := goodIn_r _ [6, 1, 7] (by decide +kernel) (by decide +kernel)
set_option maxRecDepth 20000 in
theorem gX1_grabFlag_X1_kind : GoodIn wsX1_grabFlag (wsV RX1 25 RX1 yX1_kind wsX1_kind) := goodIn_app (goodIn_of _ (by decide +kernel)) ggX1_grabFlag_X1_kind
theorem dX1_grabFlag_0 : decode cX1_grabFlag 0 = .ok (.aload_n 0, 1) := by decide +kernel
theorem dX1_grabFlag_1 : decode cX1_grabFlag 1 = .ok (.invokevirtual 25, 3) := by decide +kernel
theorem dX1_grabFlag_4 : decode cX1_grabFlag 4 = .ok (.iconst 3, 1) := by decide +kernel
theorem dX1_grabFlag_5 : decode cX1_grabFlag 5 = .ok (.if_icmp .ne 13, 3) := by decide +kernel
theorem dX1_grabFlag_8 : decode cX1_grabFlag 8 = .ok (.aload_n 0, 1) := by decide +kernel
theorem dX1_grabFlag_9 : decode cX1_grabFlag 9 = .ok (.getfield 11, 3) := by decide +kernel
theorem dX1_grabFlag_12 : decode cX1_grabFlag 12 = .ok (.bipush 52, 2) := by decide +kernel
theorem dX1_grabFlag_14 : decode cX1_grabFlag 14 = .ok (.iaload, 1) := by decide +kernel
theorem dX1_grabFlag_15 : decode cX1_grabFlag 15 = .ok (.goto 5, 3) := by decide +kernel
theorem dX1_grabFlag_18 : decode cX1_grabFlag 18 = .ok (.bipush (-5), 2) := by decide +kernel
theorem dX1_grabFlag_20 : decode cX1_grabFlag 20 = .ok (.ireturn, 1) := by decide +kernel
set_option maxRecDepth 20000 in
theorem ggX1_countAt_X1_stage : GoodIn wsX1_countAt wsX1_stage := goodIn_r _ [5, 6, 7] (by decide +kernel) (by decide +kernel)
set_option maxRecDepth 20000 in
theorem gX1_countAt_X1_stage : GoodIn wsX1_countAt (wsV RX1 33 RX1 yX1_stage wsX1_stage) := goodIn_app (goodIn_of _ (by decide +kernel)) ggX1_countAt_X1_stage
theorem dX1_countAt_0 : decode cX1_countAt 0 = .ok (.iconst 0, 1) := by decide +kernel
theorem dX1_countAt_1 : decode cX1_countAt 1 = .ok (.istore_n 2, 1) := by decide +kernel
theorem dX1_countAt_2 : decode cX1_countAt 2 = .ok (.iconst 0, 1) := by decide +kernel
theorem dX1_countAt_3 : decode cX1_countAt 3 = .ok (.istore_n 3, 1) := by decide +kernel
theorem dX1_countAt_4 : decode cX1_countAt 4 = .ok (.iload_n 3, 1) := by decide +kernel
theorem dX1_countAt_5 : decode cX1_countAt 5 = .ok (.bipush 6, 2) := by decide +kernel
theorem dX1_countAt_7 : decode cX1_countAt 7 = .ok (.if_icmp .ge 21, 3) := by decide +kernel
theorem dX1_countAt_10 : decode cX1_countAt 10 = .ok (.aload_n 0, 1) := by decide +kernel
theorem dX1_countAt_11 : decode cX1_countAt 11 = .ok (.iload_n 3, 1) := by decide +kernel
theorem dX1_countAt_12 : decode cX1_countAt 12 = .ok (.invokevirtual 33, 3) := by decide +kernel
theorem dX1_countAt_15 : decode cX1_countAt 15 = .ok (.iload_n 1, 1) := by decide +kernel
theorem dX1_countAt_16 : decode cX1_countAt 16 = .ok (.if_icmp .ne 6, 3) := by decide +kernel
theorem dX1_countAt_19 : decode cX1_countAt 19 = .ok (.iinc 2 1, 3) := by decide +kernel
theorem dX1_countAt_22 : decode cX1_countAt 22 = .ok (.iinc 3 1, 3) := by decide +kernel
theorem dX1_countAt_25 : decode cX1_countAt 25 = .ok (.goto (-21), 3) := by decide +kernel
theorem dX1_countAt_28 : decode cX1_countAt 28 = .ok (.iload_n 2, 1) := by decide +kernel
theorem dX1_countAt_29 : decode cX1_countAt 29 = .ok (.ireturn, 1) := by decide +kernel
set_option maxRecDepth 20000 in
theorem ggX1_whoIsInside_X1_stage : GoodIn wsX1_whoIsInside wsX1_stage := goodIn_r _ [5, 6, 7] (by decide +kernel) (by decide +kernel)
set_option maxRecDepth 20000 in
theorem gX1_whoIsInside_X1_stage : GoodIn wsX1_whoIsInside (wsV RX1 33 RX1 yX1_stage wsX1_stage) := goodIn_app (goodIn_of _ (by decide +kernel)) ggX1_whoIsInside_X1_stage
theorem dX1_whoIsInside_0 : decode cX1_whoIsInside 0 = .ok (.iconst 0, 1) := by decide +kernel
theorem dX1_whoIsInside_1 : decode cX1_whoIsInside 1 = .ok (.istore_n 1, 1) := by decide +kernel
theorem dX1_whoIsInside_2 : decode cX1_whoIsInside 2 = .ok (.iload_n 1, 1) := by decide +kernel
theorem dX1_whoIsInside_3 : decode cX1_whoIsInside 3 = .ok (.bipush 6, 2) := by decide +kernel
theorem dX1_whoIsInside_5 : decode cX1_whoIsInside 5 = .ok (.if_icmp .ge 20, 3) := by decide +kernel
theorem dX1_whoIsInside_8 : decode cX1_whoIsInside 8 = .ok (.aload_n 0, 1) := by decide +kernel
theorem dX1_whoIsInside_9 : decode cX1_whoIsInside 9 = .ok (.iload_n 1, 1) := by decide +kernel
theorem dX1_whoIsInside_10 : decode cX1_whoIsInside 10 = .ok (.invokevirtual 33, 3) := by decide +kernel
theorem dX1_whoIsInside_13 : decode cX1_whoIsInside 13 = .ok (.iconst 4, 1) := by decide +kernel
theorem dX1_whoIsInside_14 : decode cX1_whoIsInside 14 = .ok (.if_icmp .ne 5, 3) := by decide +kernel
theorem dX1_whoIsInside_17 : decode cX1_whoIsInside 17 = .ok (.iload_n 1, 1) := by decide +kernel
theorem dX1_whoIsInside_18 : decode cX1_whoIsInside 18 = .ok (.ireturn, 1) := by decide +kernel
theorem dX1_whoIsInside_19 : decode cX1_whoIsInside 19 = .ok (.iinc 1 1, 3) := by decide +kernel
theorem dX1_whoIsInside_22 : decode cX1_whoIsInside 22 = .ok (.goto (-20), 3) := by decide +kernel
theorem dX1_whoIsInside_25 : decode cX1_whoIsInside 25 = .ok (.bipush (-5), 2) := by decide +kernel
theorem dX1_whoIsInside_27 : decode cX1_whoIsInside 27 = .ok (.ireturn, 1) := by decide +kernel
set_option maxRecDepth 20000 in
theorem ggX1_queues_X1_kind : GoodIn wsX1_queues wsX1_kind := goodIn_r _ [5, 6, 11] (by decide +kernel) (by decide +kernel)
set_option maxRecDepth 20000 in
theorem gX1_queues_X1_kind : GoodIn wsX1_queues (wsV RX1 25 RX1 yX1_kind wsX1_kind) := goodIn_app (goodIn_of _ (by decide +kernel)) ggX1_queues_X1_kind
set_option maxRecDepth 20000 in
theorem ggX1_queues_X1_stage : GoodIn wsX1_queues wsX1_stage := goodIn_r _ [10, 6, 11] (by decide +kernel) (by decide +kernel)
set_option maxRecDepth 20000 in
theorem gX1_queues_X1_stage : GoodIn wsX1_queues (wsV RX1 33 RX1 yX1_stage wsX1_stage) := goodIn_app (goodIn_of _ (by decide +kernel)) ggX1_queues_X1_stage
theorem dX1_queues_0 : decode cX1_queues 0 = .ok (.aload_n 0, 1) := by decide +kernel
theorem dX1_queues_1 : decode cX1_queues 1 = .ok (.invokevirtual 25, 3) := by decide +kernel
theorem dX1_queues_4 : decode cX1_queues 4 = .ok (.tableswitch 72 0 2 #[28, 43, 58], 28) := by decide +kernel
theorem dX1_queues_32 : decode cX1_queues 32 = .ok (.aload_n 0, 1) := by decide +kernel
theorem dX1_queues_33 : decode cX1_queues 33 = .ok (.iload_n 1, 1) := by decide +kernel
theorem dX1_queues_34 : decode cX1_queues 34 = .ok (.invokevirtual 33, 3) := by decide +kernel
theorem dX1_queues_37 : decode cX1_queues 37 = .ok (.iconst 2, 1) := by decide +kernel
theorem dX1_queues_38 : decode cX1_queues 38 = .ok (.if_icmp .lt 7, 3) := by decide +kernel
theorem dX1_queues_41 : decode cX1_queues 41 = .ok (.iconst 1, 1) := by decide +kernel
theorem dX1_queues_42 : decode cX1_queues 42 = .ok (.goto 4, 3) := by decide +kernel
theorem dX1_queues_45 : decode cX1_queues 45 = .ok (.iconst 0, 1) := by decide +kernel
theorem dX1_queues_46 : decode cX1_queues 46 = .ok (.ireturn, 1) := by decide +kernel
theorem dX1_queues_47 : decode cX1_queues 47 = .ok (.aload_n 0, 1) := by decide +kernel
theorem dX1_queues_48 : decode cX1_queues 48 = .ok (.iload_n 1, 1) := by decide +kernel
theorem dX1_queues_49 : decode cX1_queues 49 = .ok (.invokevirtual 33, 3) := by decide +kernel
theorem dX1_queues_52 : decode cX1_queues 52 = .ok (.iconst 3, 1) := by decide +kernel
theorem dX1_queues_53 : decode cX1_queues 53 = .ok (.if_icmp .lt 7, 3) := by decide +kernel
theorem dX1_queues_56 : decode cX1_queues 56 = .ok (.iconst 1, 1) := by decide +kernel
theorem dX1_queues_57 : decode cX1_queues 57 = .ok (.goto 4, 3) := by decide +kernel
theorem dX1_queues_60 : decode cX1_queues 60 = .ok (.iconst 0, 1) := by decide +kernel
theorem dX1_queues_61 : decode cX1_queues 61 = .ok (.ireturn, 1) := by decide +kernel
theorem dX1_queues_62 : decode cX1_queues 62 = .ok (.aload_n 0, 1) := by decide +kernel
theorem dX1_queues_63 : decode cX1_queues 63 = .ok (.iload_n 1, 1) := by decide +kernel
theorem dX1_queues_64 : decode cX1_queues 64 = .ok (.invokevirtual 33, 3) := by decide +kernel
theorem dX1_queues_67 : decode cX1_queues 67 = .ok (.ifCond .eq 7, 3) := by decide +kernel
theorem dX1_queues_70 : decode cX1_queues 70 = .ok (.iconst 1, 1) := by decide +kernel
theorem dX1_queues_71 : decode cX1_queues 71 = .ok (.goto 4, 3) := by decide +kernel
theorem dX1_queues_74 : decode cX1_queues 74 = .ok (.iconst 0, 1) := by decide +kernel
theorem dX1_queues_75 : decode cX1_queues 75 = .ok (.ireturn, 1) := by decide +kernel
theorem dX1_queues_76 : decode cX1_queues 76 = .ok (.iconst 0, 1) := by decide +kernel
theorem dX1_queues_77 : decode cX1_queues 77 = .ok (.ireturn, 1) := by decide +kernel
set_option maxRecDepth 20000 in
theorem ggX1_touches_X1_kind : GoodIn wsX1_touches wsX1_kind := goodIn_r _ [6, 7, 12] (by decide +kernel) (by decide +kernel)
set_option maxRecDepth 20000 in
theorem gX1_touches_X1_kind : GoodIn wsX1_touches (wsV RX1 25 RX1 yX1_kind wsX1_kind) := goodIn_app (goodIn_of _ (by decide +kernel)) ggX1_touches_X1_kind
set_option maxRecDepth 20000 in
theorem ggX1_touches_X1_stage : GoodIn wsX1_touches wsX1_stage := goodIn_r _ [11, 7, 12] (by decide +kernel) (by decide +kernel)
set_option maxRecDepth 20000 in
theorem gX1_touches_X1_stage : GoodIn wsX1_touches (wsV RX1 33 RX1 yX1_stage wsX1_stage) := goodIn_app (goodIn_of _ (by decide +kernel)) ggX1_touches_X1_stage
theorem dX1_touches_0 : decode cX1_touches 0 = .ok (.aload_n 0, 1) := by decide +kernel
theorem dX1_touches_1 : decode cX1_touches 1 = .ok (.invokevirtual 25, 3) := by decide +kernel
theorem dX1_touches_4 : decode cX1_touches 4 = .ok (.bipush 8, 2) := by decide +kernel
theorem dX1_touches_6 : decode cX1_touches 6 = .ok (.imul, 1) := by decide +kernel
theorem dX1_touches_7 : decode cX1_touches 7 = .ok (.aload_n 0, 1) := by decide +kernel
theorem dX1_touches_8 : decode cX1_touches 8 = .ok (.iload_n 1, 1) := by decide +kernel
theorem dX1_touches_9 : decode cX1_touches 9 = .ok (.invokevirtual 33, 3) := by decide +kernel
theorem dX1_touches_12 : decode cX1_touches 12 = .ok (.iadd, 1) := by decide +kernel
theorem dX1_touches_13 : decode cX1_touches 13 = .ok (.istore_n 2, 1) := by decide +kernel
theorem dX1_touches_14 : decode cX1_touches 14 = .ok (.iload_n 2, 1) := by decide +kernel
theorem dX1_touches_15 : decode cX1_touches 15 = .ok (.ifCond .lt 19, 3) := by decide +kernel
theorem dX1_touches_18 : decode cX1_touches 18 = .ok (.iload_n 2, 1) := by decide +kernel
theorem dX1_touches_19 : decode cX1_touches 19 = .ok (.getstatic 37, 3) := by decide +kernel
theorem dX1_touches_22 : decode cX1_touches 22 = .ok (.arraylength, 1) := by decide +kernel
theorem dX1_touches_23 : decode cX1_touches 23 = .ok (.if_icmp .ge 11, 3) := by decide +kernel
theorem dX1_touches_26 : decode cX1_touches 26 = .ok (.getstatic 37, 3) := by decide +kernel
theorem dX1_touches_29 : decode cX1_touches 29 = .ok (.iload_n 2, 1) := by decide +kernel
theorem dX1_touches_30 : decode cX1_touches 30 = .ok (.iaload, 1) := by decide +kernel
theorem dX1_touches_31 : decode cX1_touches 31 = .ok (.goto 4, 3) := by decide +kernel
theorem dX1_touches_34 : decode cX1_touches 34 = .ok (.iconst 0, 1) := by decide +kernel
theorem dX1_touches_35 : decode cX1_touches 35 = .ok (.ireturn, 1) := by decide +kernel
set_option maxRecDepth 20000 in
theorem ggX1_waits_X1_stage : GoodIn wsX1_waits wsX1_stage := goodIn_r _ [6, 1, 22] (by decide +kernel) (by decide +kernel)
set_option maxRecDepth 20000 in
theorem gX1_waits_X1_stage : GoodIn wsX1_waits (wsV RX1 33 RX1 yX1_stage wsX1_stage) := goodIn_app (goodIn_of _ (by decide +kernel)) ggX1_waits_X1_stage
set_option maxRecDepth 20000 in
theorem ggX1_waits_X1_mayEnter : GoodIn wsX1_waits wsX1_mayEnter := goodIn_r _ [10, 1, 11, 12, 13, 5, 14, 15, 16, 17, 18, 19, 20, 21, 22] (by decide +kernel) (by decide +kernel)
set_option maxRecDepth 20000 in
theorem gX1_waits_X1_mayEnter : GoodIn wsX1_waits (wsV RX1 40 RX1 yX1_mayEnter wsX1_mayEnter) := goodIn_app (goodIn_of _ (by decide +kernel)) ggX1_waits_X1_mayEnter
theorem dX1_waits_0 : decode cX1_waits 0 = .ok (.aload_n 0, 1) := by decide +kernel
theorem dX1_waits_1 : decode cX1_waits 1 = .ok (.iload_n 1, 1) := by decide +kernel
theorem dX1_waits_2 : decode cX1_waits 2 = .ok (.invokevirtual 33, 3) := by decide +kernel
theorem dX1_waits_5 : decode cX1_waits 5 = .ok (.istore_n 2, 1) := by decide +kernel
theorem dX1_waits_6 : decode cX1_waits 6 = .ok (.iload_n 2, 1) := by decide +kernel
theorem dX1_waits_7 : decode cX1_waits 7 = .ok (.bipush 6, 2) := by decide +kernel
theorem dX1_waits_9 : decode cX1_waits 9 = .ok (.if_icmp .ne 23, 3) := by decide +kernel
theorem dX1_waits_12 : decode cX1_waits 12 = .ok (.aload_n 0, 1) := by decide +kernel
theorem dX1_waits_13 : decode cX1_waits 13 = .ok (.getfield 11, 3) := by decide +kernel
theorem dX1_waits_16 : decode cX1_waits 16 = .ok (.bipush 6, 2) := by decide +kernel
theorem dX1_waits_18 : decode cX1_waits 18 = .ok (.iload_n 1, 1) := by decide +kernel
theorem dX1_waits_19 : decode cX1_waits 19 = .ok (.iadd, 1) := by decide +kernel
theorem dX1_waits_20 : decode cX1_waits 20 = .ok (.iaload, 1) := by decide +kernel
theorem dX1_waits_21 : decode cX1_waits 21 = .ok (.bipush (-5), 2) := by decide +kernel
theorem dX1_waits_23 : decode cX1_waits 23 = .ok (.if_icmp .ne 7, 3) := by decide +kernel
theorem dX1_waits_26 : decode cX1_waits 26 = .ok (.iconst 1, 1) := by decide +kernel
theorem dX1_waits_27 : decode cX1_waits 27 = .ok (.goto 4, 3) := by decide +kernel
theorem dX1_waits_30 : decode cX1_waits 30 = .ok (.iconst 0, 1) := by decide +kernel
theorem dX1_waits_31 : decode cX1_waits 31 = .ok (.ireturn, 1) := by decide +kernel
theorem dX1_waits_32 : decode cX1_waits 32 = .ok (.iload_n 2, 1) := by decide +kernel
theorem dX1_waits_33 : decode cX1_waits 33 = .ok (.iconst 3, 1) := by decide +kernel
theorem dX1_waits_34 : decode cX1_waits 34 = .ok (.if_icmp .ne 15, 3) := by decide +kernel
theorem dX1_waits_37 : decode cX1_waits 37 = .ok (.aload_n 0, 1) := by decide +kernel
theorem dX1_waits_38 : decode cX1_waits 38 = .ok (.iload_n 1, 1) := by decide +kernel
theorem dX1_waits_39 : decode cX1_waits 39 = .ok (.invokevirtual 40, 3) := by decide +kernel
theorem dX1_waits_42 : decode cX1_waits 42 = .ok (.ifCond .ne 7, 3) := by decide +kernel
theorem dX1_waits_45 : decode cX1_waits 45 = .ok (.iconst 1, 1) := by decide +kernel
theorem dX1_waits_46 : decode cX1_waits 46 = .ok (.goto 4, 3) := by decide +kernel
theorem dX1_waits_49 : decode cX1_waits 49 = .ok (.iconst 0, 1) := by decide +kernel
theorem dX1_waits_50 : decode cX1_waits 50 = .ok (.ireturn, 1) := by decide +kernel
set_option maxRecDepth 20000 in
theorem ggX1_mayEnter_X1_kind : GoodIn wsX1_mayEnter wsX1_kind := goodIn_r _ [6, 1, 14] (by decide +kernel) (by decide +kernel)
set_option maxRecDepth 20000 in
theorem gX1_mayEnter_X1_kind : GoodIn wsX1_mayEnter (wsV RX1 25 RX1 yX1_kind wsX1_kind) := goodIn_app (goodIn_of _ (by decide +kernel)) ggX1_mayEnter_X1_kind
set_option maxRecDepth 20000 in
theorem ggX1_mayEnter_X1_cardFlag : GoodIn wsX1_mayEnter wsX1_cardFlag := goodIn_r _ [10, 1, 11, 12, 13, 14] (by decide +kernel) (by decide +kernel)
set_option maxRecDepth 20000 in
theorem gX1_mayEnter_X1_cardFlag : GoodIn wsX1_mayEnter (wsV RX1 43 RX1 yX1_cardFlag wsX1_cardFlag) := goodIn_app (goodIn_of _ (by decide +kernel)) ggX1_mayEnter_X1_cardFlag
theorem dX1_mayEnter_0 : decode cX1_mayEnter 0 = .ok (.aload_n 0, 1) := by decide +kernel
theorem dX1_mayEnter_1 : decode cX1_mayEnter 1 = .ok (.invokevirtual 25, 3) := by decide +kernel
theorem dX1_mayEnter_4 : decode cX1_mayEnter 4 = .ok (.tableswitch 93 0 2 #[28, 46, 68], 28) := by decide +kernel
theorem dX1_mayEnter_32 : decode cX1_mayEnter 32 = .ok (.aload_n 0, 1) := by decide +kernel
theorem dX1_mayEnter_33 : decode cX1_mayEnter 33 = .ok (.getfield 11, 3) := by decide +kernel
theorem dX1_mayEnter_36 : decode cX1_mayEnter 36 = .ok (.bipush 12, 2) := by decide +kernel
theorem dX1_mayEnter_38 : decode cX1_mayEnter 38 = .ok (.iload_n 1, 1) := by decide +kernel
theorem dX1_mayEnter_39 : decode cX1_mayEnter 39 = .ok (.iadd, 1) := by decide +kernel
theorem dX1_mayEnter_40 : decode cX1_mayEnter 40 = .ok (.iaload, 1) := by decide +kernel
theorem dX1_mayEnter_41 : decode cX1_mayEnter 41 = .ok (.ifCond .ne 7, 3) := by decide +kernel
theorem dX1_mayEnter_44 : decode cX1_mayEnter 44 = .ok (.iconst 1, 1) := by decide +kernel
theorem dX1_mayEnter_45 : decode cX1_mayEnter 45 = .ok (.goto 4, 3) := by decide +kernel
theorem dX1_mayEnter_48 : decode cX1_mayEnter 48 = .ok (.iconst 0, 1) := by decide +kernel
theorem dX1_mayEnter_49 : decode cX1_mayEnter 49 = .ok (.ireturn, 1) := by decide +kernel
theorem dX1_mayEnter_50 : decode cX1_mayEnter 50 = .ok (.aload_n 0, 1) := by decide +kernel
theorem dX1_mayEnter_51 : decode cX1_mayEnter 51 = .ok (.aload_n 0, 1) := by decide +kernel
theorem dX1_mayEnter_52 : decode cX1_mayEnter 52 = .ok (.getfield 11, 3) := by decide +kernel
theorem dX1_mayEnter_55 : decode cX1_mayEnter 55 = .ok (.bipush 30, 2) := by decide +kernel
theorem dX1_mayEnter_57 : decode cX1_mayEnter 57 = .ok (.iload_n 1, 1) := by decide +kernel
theorem dX1_mayEnter_58 : decode cX1_mayEnter 58 = .ok (.iadd, 1) := by decide +kernel
theorem dX1_mayEnter_59 : decode cX1_mayEnter 59 = .ok (.iaload, 1) := by decide +kernel
theorem dX1_mayEnter_60 : decode cX1_mayEnter 60 = .ok (.invokevirtual 43, 3) := by decide +kernel
theorem dX1_mayEnter_63 : decode cX1_mayEnter 63 = .ok (.ifCond .ne 7, 3) := by decide +kernel
theorem dX1_mayEnter_66 : decode cX1_mayEnter 66 = .ok (.iconst 1, 1) := by decide +kernel
theorem dX1_mayEnter_67 : decode cX1_mayEnter 67 = .ok (.goto 4, 3) := by decide +kernel
theorem dX1_mayEnter_70 : decode cX1_mayEnter 70 = .ok (.iconst 0, 1) := by decide +kernel
theorem dX1_mayEnter_71 : decode cX1_mayEnter 71 = .ok (.ireturn, 1) := by decide +kernel
theorem dX1_mayEnter_72 : decode cX1_mayEnter 72 = .ok (.aload_n 0, 1) := by decide +kernel
theorem dX1_mayEnter_73 : decode cX1_mayEnter 73 = .ok (.getfield 11, 3) := by decide +kernel
theorem dX1_mayEnter_76 : decode cX1_mayEnter 76 = .ok (.bipush 36, 2) := by decide +kernel
theorem dX1_mayEnter_78 : decode cX1_mayEnter 78 = .ok (.iload_n 1, 1) := by decide +kernel
theorem dX1_mayEnter_79 : decode cX1_mayEnter 79 = .ok (.iadd, 1) := by decide +kernel
theorem dX1_mayEnter_80 : decode cX1_mayEnter 80 = .ok (.iaload, 1) := by decide +kernel
theorem dX1_mayEnter_81 : decode cX1_mayEnter 81 = .ok (.aload_n 0, 1) := by decide +kernel
theorem dX1_mayEnter_82 : decode cX1_mayEnter 82 = .ok (.getfield 11, 3) := by decide +kernel
theorem dX1_mayEnter_85 : decode cX1_mayEnter 85 = .ok (.bipush 51, 2) := by decide +kernel
theorem dX1_mayEnter_87 : decode cX1_mayEnter 87 = .ok (.iaload, 1) := by decide +kernel
theorem dX1_mayEnter_88 : decode cX1_mayEnter 88 = .ok (.if_icmp .ne 7, 3) := by decide +kernel
theorem dX1_mayEnter_91 : decode cX1_mayEnter 91 = .ok (.iconst 1, 1) := by decide +kernel
theorem dX1_mayEnter_92 : decode cX1_mayEnter 92 = .ok (.goto 4, 3) := by decide +kernel
theorem dX1_mayEnter_95 : decode cX1_mayEnter 95 = .ok (.iconst 0, 1) := by decide +kernel
theorem dX1_mayEnter_96 : decode cX1_mayEnter 96 = .ok (.ireturn, 1) := by decide +kernel
theorem dX1_mayEnter_97 : decode cX1_mayEnter 97 = .ok (.aload_n 0, 1) := by decide +kernel
theorem dX1_mayEnter_98 : decode cX1_mayEnter 98 = .ok (.getfield 11, 3) := by decide +kernel
theorem dX1_mayEnter_101 : decode cX1_mayEnter 101 = .ok (.bipush 52, 2) := by decide +kernel
theorem dX1_mayEnter_103 : decode cX1_mayEnter 103 = .ok (.iaload, 1) := by decide +kernel
theorem dX1_mayEnter_104 : decode cX1_mayEnter 104 = .ok (.ifCond .ne 7, 3) := by decide +kernel
theorem dX1_mayEnter_107 : decode cX1_mayEnter 107 = .ok (.iconst 1, 1) := by decide +kernel
theorem dX1_mayEnter_108 : decode cX1_mayEnter 108 = .ok (.goto 4, 3) := by decide +kernel
theorem dX1_mayEnter_111 : decode cX1_mayEnter 111 = .ok (.iconst 0, 1) := by decide +kernel
theorem dX1_mayEnter_112 : decode cX1_mayEnter 112 = .ok (.ireturn, 1) := by decide +kernel
set_option maxRecDepth 20000 in
theorem ggX1_advance_X1_waits : GoodIn wsX1_advance wsX1_waits := goodIn_r _ [5, 6, 7, 8, 9, 4, 10, 11, 12, 13, 14, 15, 16, 17, 18, 19, 20, 21, 22, 23, 24, 25, 64] (by decide +kernel) (by decide +kernel)
set_option maxRecDepth 20000 in
theorem gX1_advance_X1_waits : GoodIn wsX1_advance (wsV RX1 46 RX1 yX1_waits wsX1_waits) := goodIn_app (goodIn_of _ (by decide +kernel)) ggX1_advance_X1_waits
set_option maxRecDepth 20000 in
theorem ggX1_advance_X1_kind : GoodIn wsX1_advance wsX1_kind := goodIn_r _ [18, 6, 64] (by decide +kernel) (by decide +kernel)
set_option maxRecDepth 20000 in
theorem gX1_advance_X1_kind : GoodIn wsX1_advance (wsV RX1 25 RX1 yX1_kind wsX1_kind) := goodIn_app (goodIn_of _ (by decide +kernel)) ggX1_advance_X1_kind
set_option maxRecDepth 20000 in
theorem ggX1_advance_X1_advanceNudges : GoodIn wsX1_advance wsX1_advanceNudges := goodIn_r _ [29, 6, 7, 8, 9, 4, 10, 30, 31, 32, 33, 34, 35, 36, 37, 38, 24, 39, 40, 41, 42, 43, 44, 45, 46, 47, 64] (by decide +kernel) (by decide +kernel)
set_option maxRecDepth 20000 in
theorem gX1_advance_X1_advanceNudges : GoodIn wsX1_advance (wsV RX1 49 RX1 yX1_advanceNudges wsX1_advanceNudges) := goodIn_app (goodIn_of _ (by decide +kernel)) ggX1_advance_X1_advanceNudges
set_option maxRecDepth 20000 in
theorem ggX1_advance_X1_advanceWatching : GoodIn wsX1_advance wsX1_advanceWatching := goodIn_r _ [51, 6, 7, 8, 9, 4, 10, 52, 53, 54, 55, 23, 24, 25, 30, 31, 32, 33, 64] (by decide +kernel) (by decide +kernel)
set_option maxRecDepth 20000 in
theorem gX1_advance_X1_advanceWatching : GoodIn wsX1_advance (wsV RX1 52 RX1 yX1_advanceWatching wsX1_advanceWatching) := goodIn_app (goodIn_of _ (by decide +kernel)) ggX1_advance_X1_advanceWatching
set_option maxRecDepth 20000 in
theorem ggX1_advance_X1_advanceTickets : GoodIn wsX1_advance wsX1_advanceTickets := goodIn_r _ [59, 6, 7, 8, 9, 4, 10, 30, 31, 32, 33, 64] (by decide +kernel) (by decide +kernel)
set_option maxRecDepth 20000 in
theorem gX1_advance_X1_advanceTickets : GoodIn wsX1_advance (wsV RX1 55 RX1 yX1_advanceTickets wsX1_advanceTickets) := goodIn_app (goodIn_of _ (by decide +kernel)) ggX1_advance_X1_advanceTickets
set_option maxRecDepth 20000 in
theorem ggX1_advance_X1_advanceGrabbing : GoodIn wsX1_advance wsX1_advanceGrabbing := goodIn_r _ [63, 6, 7, 8, 9, 4, 10, 30, 31, 32, 33, 64] (by decide +kernel) (by decide +kernel)
set_option maxRecDepth 20000 in
theorem gX1_advance_X1_advanceGrabbing : GoodIn wsX1_advance (wsV RX1 58 RX1 yX1_advanceGrabbing wsX1_advanceGrabbing) := goodIn_app (goodIn_of _ (by decide +kernel)) ggX1_advance_X1_advanceGrabbing
theorem dX1_advance_0 : decode cX1_advance 0 = .ok (.aload_n 0, 1) := by decide +kernel
theorem dX1_advance_1 : decode cX1_advance 1 = .ok (.iload_n 1, 1) := by decide +kernel
theorem dX1_advance_2 : decode cX1_advance 2 = .ok (.invokevirtual 46, 3) := by decide +kernel
theorem dX1_advance_5 : decode cX1_advance 5 = .ok (.ifCond .eq 4, 3) := by decide +kernel
theorem dX1_advance_8 : decode cX1_advance 8 = .ok (.return_, 1) := by decide +kernel
theorem dX1_advance_9 : decode cX1_advance 9 = .ok (.aload_n 0, 1) := by decide +kernel
theorem dX1_advance_10 : decode cX1_advance 10 = .ok (.invokevirtual 25, 3) := by decide +kernel
theorem dX1_advance_13 : decode cX1_advance 13 = .ok (.tableswitch 51 0 2 #[27, 35, 43], 27) := by decide +kernel
theorem dX1_advance_40 : decode cX1_advance 40 = .ok (.aload_n 0, 1) := by decide +kernel
theorem dX1_advance_41 : decode cX1_advance 41 = .ok (.iload_n 1, 1) := by decide +kernel
theorem dX1_advance_42 : decode cX1_advance 42 = .ok (.invokevirtual 49, 3) := by decide +kernel
theorem dX1_advance_45 : decode cX1_advance 45 = .ok (.goto 24, 3) := by decide +kernel
theorem dX1_advance_48 : decode cX1_advance 48 = .ok (.aload_n 0, 1) := by decide +kernel
theorem dX1_advance_49 : decode cX1_advance 49 = .ok (.iload_n 1, 1) := by decide +kernel
theorem dX1_advance_50 : decode cX1_advance 50 = .ok (.invokevirtual 52, 3) := by decide +kernel
theorem dX1_advance_53 : decode cX1_advance 53 = .ok (.goto 16, 3) := by decide +kernel
theorem dX1_advance_56 : decode cX1_advance 56 = .ok (.aload_n 0, 1) := by decide +kernel
theorem dX1_advance_57 : decode cX1_advance 57 = .ok (.iload_n 1, 1) := by decide +kernel
theorem dX1_advance_58 : decode cX1_advance 58 = .ok (.invokevirtual 55, 3) := by decide +kernel
theorem dX1_advance_61 : decode cX1_advance 61 = .ok (.goto 8, 3) := by decide +kernel
theorem dX1_advance_64 : decode cX1_advance 64 = .ok (.aload_n 0, 1) := by decide +kernel
theorem dX1_advance_65 : decode cX1_advance 65 = .ok (.iload_n 1, 1) := by decide +kernel
theorem dX1_advance_66 : decode cX1_advance 66 = .ok (.invokevirtual 58, 3) := by decide +kernel
theorem dX1_advance_69 : decode cX1_advance 69 = .ok (.return_, 1) := by decide +kernel
set_option maxRecDepth 20000 in
theorem ggX1_advanceNudges_X1_stage : GoodIn wsX1_advanceNudges wsX1_stage := goodIn_r _ [6, 1, 26] (by decide +kernel) (by decide +kernel)
set_option maxRecDepth 20000 in
theorem gX1_advanceNudges_X1_stage : GoodIn wsX1_advanceNudges (wsV RX1 33 RX1 yX1_stage wsX1_stage) := goodIn_app (goodIn_of _ (by decide +kernel)) ggX1_advanceNudges_X1_stage
set_option maxRecDepth 20000 in
theorem ggX1_advanceNudges_X1_moveTo : GoodIn wsX1_advanceNudges wsX1_moveTo := goodIn_r _ [10, 1, 26] (by decide +kernel) (by decide +kernel)
set_option maxRecDepth 20000 in
theorem gX1_advanceNudges_X1_moveTo : GoodIn wsX1_advanceNudges (wsV RX1 61 RX1 yX1_moveTo wsX1_moveTo) := goodIn_app (goodIn_of _ (by decide +kernel)) ggX1_advanceNudges_X1_moveTo
set_option maxRecDepth 20000 in
theorem ggX1_advanceNudges_X1_setNext : GoodIn wsX1_advanceNudges wsX1_setNext := goodIn_r _ [14, 1, 15, 16, 17, 26] (by decide +kernel) (by decide +kernel)
set_option maxRecDepth 20000 in
theorem gX1_advanceNudges_X1_setNext : GoodIn wsX1_advanceNudges (wsV RX1 65 RX1 yX1_setNext wsX1_setNext) := goodIn_app (goodIn_of _ (by decide +kernel)) ggX1_advanceNudges_X1_setNext
set_option maxRecDepth 20000 in
theorem ggX1_advanceNudges_X1_leaveTail : GoodIn wsX1_advanceNudges wsX1_leaveTail := goodIn_r _ [21, 1, 7, 8, 9, 5, 10, 26] (by decide +kernel) (by decide +kernel)
set_option maxRecDepth 20000 in
theorem gX1_advanceNudges_X1_leaveTail : GoodIn wsX1_advanceNudges (wsV RX1 68 RX1 yX1_leaveTail wsX1_leaveTail) := goodIn_app (goodIn_of _ (by decide +kernel)) ggX1_advanceNudges_X1_leaveTail
set_option maxRecDepth 20000 in
theorem ggX1_advanceNudges_X1_lowerFlag : GoodIn wsX1_advanceNudges wsX1_lowerFlag := goodIn_r _ [25, 1, 15, 16, 17, 26] (by decide +kernel) (by decide +kernel)
set_option maxRecDepth 20000 in
theorem gX1_advanceNudges_X1_lowerFlag : GoodIn wsX1_advanceNudges (wsV RX1 71 RX1 yX1_lowerFlag wsX1_lowerFlag) := goodIn_app (goodIn_of _ (by decide +kernel)) ggX1_advanceNudges_X1_lowerFlag
theorem dX1_advanceNudges_0 : decode cX1_advanceNudges 0 = .ok (.aload_n 0, 1) := by decide +kernel
theorem dX1_advanceNudges_1 : decode cX1_advanceNudges 1 = .ok (.iload_n 1, 1) := by decide +kernel
theorem dX1_advanceNudges_2 : decode cX1_advanceNudges 2 = .ok (.invokevirtual 33, 3) := by decide +kernel
theorem dX1_advanceNudges_5 : decode cX1_advanceNudges 5 = .ok (.tableswitch 213 0 6 #[43, 73, 124, 147, 167, 195, 203], 43) := by decide +kernel
theorem dX1_advanceNudges_48 : decode cX1_advanceNudges 48 = .ok (.aload_n 0, 1) := by decide +kernel
theorem dX1_advanceNudges_49 : decode cX1_advanceNudges 49 = .ok (.getfield 11, 3) := by decide +kernel
theorem dX1_advanceNudges_52 : decode cX1_advanceNudges 52 = .ok (.bipush 6, 2) := by decide +kernel
theorem dX1_advanceNudges_54 : decode cX1_advanceNudges 54 = .ok (.iload_n 1, 1) := by decide +kernel
theorem dX1_advanceNudges_55 : decode cX1_advanceNudges 55 = .ok (.iadd, 1) := by decide +kernel
theorem dX1_advanceNudges_56 : decode cX1_advanceNudges 56 = .ok (.bipush (-5), 2) := by decide +kernel
theorem dX1_advanceNudges_58 : decode cX1_advanceNudges 58 = .ok (.iastore, 1) := by decide +kernel
theorem dX1_advanceNudges_59 : decode cX1_advanceNudges 59 = .ok (.aload_n 0, 1) := by decide +kernel
theorem dX1_advanceNudges_60 : decode cX1_advanceNudges 60 = .ok (.getfield 11, 3) := by decide +kernel
theorem dX1_advanceNudges_63 : decode cX1_advanceNudges 63 = .ok (.bipush 12, 2) := by decide +kernel
theorem dX1_advanceNudges_65 : decode cX1_advanceNudges 65 = .ok (.iload_n 1, 1) := by decide +kernel
theorem dX1_advanceNudges_66 : decode cX1_advanceNudges 66 = .ok (.iadd, 1) := by decide +kernel
theorem dX1_advanceNudges_67 : decode cX1_advanceNudges 67 = .ok (.iconst 1, 1) := by decide +kernel
theorem dX1_advanceNudges_68 : decode cX1_advanceNudges 68 = .ok (.iastore, 1) := by decide +kernel
theorem dX1_advanceNudges_69 : decode cX1_advanceNudges 69 = .ok (.aload_n 0, 1) := by decide +kernel
theorem dX1_advanceNudges_70 : decode cX1_advanceNudges 70 = .ok (.iload_n 1, 1) := by decide +kernel
theorem dX1_advanceNudges_71 : decode cX1_advanceNudges 71 = .ok (.iconst 1, 1) := by decide +kernel
theorem dX1_advanceNudges_72 : decode cX1_advanceNudges 72 = .ok (.invokevirtual 61, 3) := by decide +kernel
theorem dX1_advanceNudges_75 : decode cX1_advanceNudges 75 = .ok (.goto 162, 3) := by decide +kernel
theorem dX1_advanceNudges_78 : decode cX1_advanceNudges 78 = .ok (.aload_n 0, 1) := by decide +kernel
theorem dX1_advanceNudges_79 : decode cX1_advanceNudges 79 = .ok (.getfield 11, 3) := by decide +kernel
theorem dX1_advanceNudges_82 : decode cX1_advanceNudges 82 = .ok (.bipush 18, 2) := by decide +kernel
theorem dX1_advanceNudges_84 : decode cX1_advanceNudges 84 = .ok (.iload_n 1, 1) := by decide +kernel
theorem dX1_advanceNudges_85 : decode cX1_advanceNudges 85 = .ok (.iadd, 1) := by decide +kernel
theorem dX1_advanceNudges_86 : decode cX1_advanceNudges 86 = .ok (.aload_n 0, 1) := by decide +kernel
theorem dX1_advanceNudges_87 : decode cX1_advanceNudges 87 = .ok (.getfield 11, 3) := by decide +kernel
theorem dX1_advanceNudges_90 : decode cX1_advanceNudges 90 = .ok (.bipush 49, 2) := by decide +kernel
theorem dX1_advanceNudges_92 : decode cX1_advanceNudges 92 = .ok (.iaload, 1) := by decide +kernel
theorem dX1_advanceNudges_93 : decode cX1_advanceNudges 93 = .ok (.iastore, 1) := by decide +kernel
theorem dX1_advanceNudges_94 : decode cX1_advanceNudges 94 = .ok (.aload_n 0, 1) := by decide +kernel
theorem dX1_advanceNudges_95 : decode cX1_advanceNudges 95 = .ok (.getfield 11, 3) := by decide +kernel
theorem dX1_advanceNudges_98 : decode cX1_advanceNudges 98 = .ok (.bipush 49, 2) := by decide +kernel
theorem dX1_advanceNudges_100 : decode cX1_advanceNudges 100 = .ok (.iload_n 1, 1) := by decide +kernel
theorem dX1_advanceNudges_101 : decode cX1_advanceNudges 101 = .ok (.iastore, 1) := by decide +kernel
theorem dX1_advanceNudges_102 : decode cX1_advanceNudges 102 = .ok (.aload_n 0, 1) := by decide +kernel
theorem dX1_advanceNudges_103 : decode cX1_advanceNudges 103 = .ok (.iload_n 1, 1) := by decide +kernel
theorem dX1_advanceNudges_104 : decode cX1_advanceNudges 104 = .ok (.aload_n 0, 1) := by decide +kernel
theorem dX1_advanceNudges_105 : decode cX1_advanceNudges 105 = .ok (.getfield 11, 3) := by decide +kernel
theorem dX1_advanceNudges_108 : decode cX1_advanceNudges 108 = .ok (.bipush 18, 2) := by decide +kernel
theorem dX1_advanceNudges_110 : decode cX1_advanceNudges 110 = .ok (.iload_n 1, 1) := by decide +kernel
theorem dX1_advanceNudges_111 : decode cX1_advanceNudges 111 = .ok (.iadd, 1) := by decide +kernel
theorem dX1_advanceNudges_112 : decode cX1_advanceNudges 112 = .ok (.iaload, 1) := by decide +kernel
theorem dX1_advanceNudges_113 : decode cX1_advanceNudges 113 = .ok (.bipush (-5), 2) := by decide +kernel
theorem dX1_advanceNudges_115 : decode cX1_advanceNudges 115 = .ok (.if_icmp .ne 7, 3) := by decide +kernel
theorem dX1_advanceNudges_118 : decode cX1_advanceNudges 118 = .ok (.iconst 4, 1) := by decide +kernel
theorem dX1_advanceNudges_119 : decode cX1_advanceNudges 119 = .ok (.goto 4, 3) := by decide +kernel
theorem dX1_advanceNudges_122 : decode cX1_advanceNudges 122 = .ok (.iconst 2, 1) := by decide +kernel
theorem dX1_advanceNudges_123 : decode cX1_advanceNudges 123 = .ok (.invokevirtual 61, 3) := by decide +kernel
theorem dX1_advanceNudges_126 : decode cX1_advanceNudges 126 = .ok (.goto 111, 3) := by decide +kernel
theorem dX1_advanceNudges_129 : decode cX1_advanceNudges 129 = .ok (.aload_n 0, 1) := by decide +kernel
theorem dX1_advanceNudges_130 : decode cX1_advanceNudges 130 = .ok (.aload_n 0, 1) := by decide +kernel
theorem dX1_advanceNudges_131 : decode cX1_advanceNudges 131 = .ok (.getfield 11, 3) := by decide +kernel
theorem dX1_advanceNudges_134 : decode cX1_advanceNudges 134 = .ok (.bipush 18, 2) := by decide +kernel
theorem dX1_advanceNudges_136 : decode cX1_advanceNudges 136 = .ok (.iload_n 1, 1) := by decide +kernel
theorem dX1_advanceNudges_137 : decode cX1_advanceNudges 137 = .ok (.iadd, 1) := by decide +kernel
theorem dX1_advanceNudges_138 : decode cX1_advanceNudges 138 = .ok (.iaload, 1) := by decide +kernel
theorem dX1_advanceNudges_139 : decode cX1_advanceNudges 139 = .ok (.iload_n 1, 1) := by decide +kernel
theorem dX1_advanceNudges_140 : decode cX1_advanceNudges 140 = .ok (.invokevirtual 65, 3) := by decide +kernel
theorem dX1_advanceNudges_143 : decode cX1_advanceNudges 143 = .ok (.aload_n 0, 1) := by decide +kernel
theorem dX1_advanceNudges_144 : decode cX1_advanceNudges 144 = .ok (.iload_n 1, 1) := by decide +kernel
theorem dX1_advanceNudges_145 : decode cX1_advanceNudges 145 = .ok (.iconst 3, 1) := by decide +kernel
theorem dX1_advanceNudges_146 : decode cX1_advanceNudges 146 = .ok (.invokevirtual 61, 3) := by decide +kernel
theorem dX1_advanceNudges_149 : decode cX1_advanceNudges 149 = .ok (.goto 88, 3) := by decide +kernel
theorem dX1_advanceNudges_152 : decode cX1_advanceNudges 152 = .ok (.aload_n 0, 1) := by decide +kernel
theorem dX1_advanceNudges_153 : decode cX1_advanceNudges 153 = .ok (.getfield 11, 3) := by decide +kernel
theorem dX1_advanceNudges_156 : decode cX1_advanceNudges 156 = .ok (.bipush 18, 2) := by decide +kernel
theorem dX1_advanceNudges_158 : decode cX1_advanceNudges 158 = .ok (.iload_n 1, 1) := by decide +kernel
theorem dX1_advanceNudges_159 : decode cX1_advanceNudges 159 = .ok (.iadd, 1) := by decide +kernel
theorem dX1_advanceNudges_160 : decode cX1_advanceNudges 160 = .ok (.bipush (-5), 2) := by decide +kernel
theorem dX1_advanceNudges_162 : decode cX1_advanceNudges 162 = .ok (.iastore, 1) := by decide +kernel
theorem dX1_advanceNudges_163 : decode cX1_advanceNudges 163 = .ok (.aload_n 0, 1) := by decide +kernel
theorem dX1_advanceNudges_164 : decode cX1_advanceNudges 164 = .ok (.iload_n 1, 1) := by decide +kernel
theorem dX1_advanceNudges_165 : decode cX1_advanceNudges 165 = .ok (.iconst 4, 1) := by decide +kernel
theorem dX1_advanceNudges_166 : decode cX1_advanceNudges 166 = .ok (.invokevirtual 61, 3) := by decide +kernel
theorem dX1_advanceNudges_169 : decode cX1_advanceNudges 169 = .ok (.goto 68, 3) := by decide +kernel
theorem dX1_advanceNudges_172 : decode cX1_advanceNudges 172 = .ok (.aload_n 0, 1) := by decide +kernel
theorem dX1_advanceNudges_173 : decode cX1_advanceNudges 173 = .ok (.iload_n 1, 1) := by decide +kernel
theorem dX1_advanceNudges_174 : decode cX1_advanceNudges 174 = .ok (.aload_n 0, 1) := by decide +kernel
theorem dX1_advanceNudges_175 : decode cX1_advanceNudges 175 = .ok (.getfield 11, 3) := by decide +kernel
theorem dX1_advanceNudges_178 : decode cX1_advanceNudges 178 = .ok (.bipush 6, 2) := by decide +kernel
theorem dX1_advanceNudges_180 : decode cX1_advanceNudges 180 = .ok (.iload_n 1, 1) := by decide +kernel
theorem dX1_advanceNudges_181 : decode cX1_advanceNudges 181 = .ok (.iadd, 1) := by decide +kernel
theorem dX1_advanceNudges_182 : decode cX1_advanceNudges 182 = .ok (.iaload, 1) := by decide +kernel
theorem dX1_advanceNudges_183 : decode cX1_advanceNudges 183 = .ok (.bipush (-5), 2) := by decide +kernel
theorem dX1_advanceNudges_185 : decode cX1_advanceNudges 185 = .ok (.if_icmp .ne 7, 3) := by decide +kernel
theorem dX1_advanceNudges_188 : decode cX1_advanceNudges 188 = .ok (.iconst 5, 1) := by decide +kernel
theorem dX1_advanceNudges_189 : decode cX1_advanceNudges 189 = .ok (.goto 5, 3) := by decide +kernel
theorem dX1_advanceNudges_192 : decode cX1_advanceNudges 192 = .ok (.bipush 7, 2) := by decide +kernel
theorem dX1_advanceNudges_194 : decode cX1_advanceNudges 194 = .ok (.invokevirtual 61, 3) := by decide +kernel
theorem dX1_advanceNudges_197 : decode cX1_advanceNudges 197 = .ok (.goto 40, 3) := by decide +kernel
theorem dX1_advanceNudges_200 : decode cX1_advanceNudges 200 = .ok (.aload_n 0, 1) := by decide +kernel
theorem dX1_advanceNudges_201 : decode cX1_advanceNudges 201 = .ok (.iload_n 1, 1) := by decide +kernel
theorem dX1_advanceNudges_202 : decode cX1_advanceNudges 202 = .ok (.invokevirtual 68, 3) := by decide +kernel
theorem dX1_advanceNudges_205 : decode cX1_advanceNudges 205 = .ok (.goto 32, 3) := by decide +kernel
theorem dX1_advanceNudges_208 : decode cX1_advanceNudges 208 = .ok (.aload_n 0, 1) := by decide +kernel
theorem dX1_advanceNudges_209 : decode cX1_advanceNudges 209 = .ok (.iload_n 1, 1) := by decide +kernel
theorem dX1_advanceNudges_210 : decode cX1_advanceNudges 210 = .ok (.bipush 7, 2) := by decide +kernel
theorem dX1_advanceNudges_212 : decode cX1_advanceNudges 212 = .ok (.invokevirtual 61, 3) := by decide +kernel
theorem dX1_advanceNudges_215 : decode cX1_advanceNudges 215 = .ok (.goto 22, 3) := by decide +kernel
theorem dX1_advanceNudges_218 : decode cX1_advanceNudges 218 = .ok (.aload_n 0, 1) := by decide +kernel
theorem dX1_advanceNudges_219 : decode cX1_advanceNudges 219 = .ok (.aload_n 0, 1) := by decide +kernel
theorem dX1_advanceNudges_220 : decode cX1_advanceNudges 220 = .ok (.getfield 11, 3) := by decide +kernel
theorem dX1_advanceNudges_223 : decode cX1_advanceNudges 223 = .ok (.bipush 6, 2) := by decide +kernel
theorem dX1_advanceNudges_225 : decode cX1_advanceNudges 225 = .ok (.iload_n 1, 1) := by decide +kernel
theorem dX1_advanceNudges_226 : decode cX1_advanceNudges 226 = .ok (.iadd, 1) := by decide +kernel
theorem dX1_advanceNudges_227 : decode cX1_advanceNudges 227 = .ok (.iaload, 1) := by decide +kernel
theorem dX1_advanceNudges_228 : decode cX1_advanceNudges 228 = .ok (.invokevirtual 71, 3) := by decide +kernel
theorem dX1_advanceNudges_231 : decode cX1_advanceNudges 231 = .ok (.aload_n 0, 1) := by decide +kernel
theorem dX1_advanceNudges_232 : decode cX1_advanceNudges 232 = .ok (.iload_n 1, 1) := by decide +kernel
theorem dX1_advanceNudges_233 : decode cX1_advanceNudges 233 = .ok (.iconst 0, 1) := by decide +kernel
theorem dX1_advanceNudges_234 : decode cX1_advanceNudges 234 = .ok (.invokevirtual 61, 3) := by decide +kernel
theorem dX1_advanceNudges_237 : decode cX1_advanceNudges 237 = .ok (.return_, 1) := by decide +kernel
set_option maxRecDepth 20000 in
theorem ggX1_setNext_X4_isVisitor : GoodIn wsX1_setNext wsX4_isVisitor := goodIn_r _ [4] (by decide +kernel) (by decide +kernel)
set_option maxRecDepth 20000 in
theorem gX1_setNext_X4_isVisitor_n74 : GoodIn wsX1_setNext (wsX4_isVisitor) := ggX1_setNext_X4_isVisitor
theorem dX1_setNext_0 : decode cX1_setNext 0 = .ok (.iload_n 1, 1) := by decide +kernel
theorem dX1_setNext_1 : decode cX1_setNext 1 = .ok (.invokestatic 74, 3) := by decide +kernel
theorem dX1_setNext_4 : decode cX1_setNext 4 = .ok (.ifCond .eq 13, 3) := by decide +kernel
theorem dX1_setNext_7 : decode cX1_setNext 7 = .ok (.aload_n 0, 1) := by decide +kernel
theorem dX1_setNext_8 : decode cX1_setNext 8 = .ok (.getfield 11, 3) := by decide +kernel
theorem dX1_setNext_11 : decode cX1_setNext 11 = .ok (.bipush 6, 2) := by decide +kernel
theorem dX1_setNext_13 : decode cX1_setNext 13 = .ok (.iload_n 1, 1) := by decide +kernel
theorem dX1_setNext_14 : decode cX1_setNext 14 = .ok (.iadd, 1) := by decide +kernel
theorem dX1_setNext_15 : decode cX1_setNext 15 = .ok (.iload_n 2, 1) := by decide +kernel
theorem dX1_setNext_16 : decode cX1_setNext 16 = .ok (.iastore, 1) := by decide +kernel
theorem dX1_setNext_17 : decode cX1_setNext 17 = .ok (.return_, 1) := by decide +kernel
set_option maxRecDepth 20000 in
theorem ggX1_lowerFlag_X4_isVisitor : GoodIn wsX1_lowerFlag wsX4_isVisitor := goodIn_r _ [4] (by decide +kernel) (by decide +kernel)
set_option maxRecDepth 20000 in
theorem gX1_lowerFlag_X4_isVisitor_n74 : GoodIn wsX1_lowerFlag (wsX4_isVisitor) := ggX1_lowerFlag_X4_isVisitor
theorem dX1_lowerFlag_0 : decode cX1_lowerFlag 0 = .ok (.iload_n 1, 1) := by decide +kernel
theorem dX1_lowerFlag_1 : decode cX1_lowerFlag 1 = .ok (.invokestatic 74, 3) := by decide +kernel
theorem dX1_lowerFlag_4 : decode cX1_lowerFlag 4 = .ok (.ifCond .eq 13, 3) := by decide +kernel
theorem dX1_lowerFlag_7 : decode cX1_lowerFlag 7 = .ok (.aload_n 0, 1) := by decide +kernel
theorem dX1_lowerFlag_8 : decode cX1_lowerFlag 8 = .ok (.getfield 11, 3) := by decide +kernel
theorem dX1_lowerFlag_11 : decode cX1_lowerFlag 11 = .ok (.bipush 12, 2) := by decide +kernel
theorem dX1_lowerFlag_13 : decode cX1_lowerFlag 13 = .ok (.iload_n 1, 1) := by decide +kernel
theorem dX1_lowerFlag_14 : decode cX1_lowerFlag 14 = .ok (.iadd, 1) := by decide +kernel
theorem dX1_lowerFlag_15 : decode cX1_lowerFlag 15 = .ok (.iconst 0, 1) := by decide +kernel
theorem dX1_lowerFlag_16 : decode cX1_lowerFlag 16 = .ok (.iastore, 1) := by decide +kernel
theorem dX1_lowerFlag_17 : decode cX1_lowerFlag 17 = .ok (.return_, 1) := by decide +kernel
set_option maxRecDepth 20000 in
theorem ggX1_leaveTail_X1_moveTo : GoodIn wsX1_leaveTail wsX1_moveTo := goodIn_r _ [6, 1, 7] (by decide +kernel) (by decide +kernel)
set_option maxRecDepth 20000 in
theorem gX1_leaveTail_X1_moveTo : GoodIn wsX1_leaveTail (wsV RX1 61 RX1 yX1_moveTo wsX1_moveTo) := goodIn_app (goodIn_of _ (by decide +kernel)) ggX1_leaveTail_X1_moveTo
theorem dX1_leaveTail_0 : decode cX1_leaveTail 0 = .ok (.aload_n 0, 1) := by decide +kernel
theorem dX1_leaveTail_1 : decode cX1_leaveTail 1 = .ok (.getfield 11, 3) := by decide +kernel
theorem dX1_leaveTail_4 : decode cX1_leaveTail 4 = .ok (.bipush 49, 2) := by decide +kernel
theorem dX1_leaveTail_6 : decode cX1_leaveTail 6 = .ok (.iaload, 1) := by decide +kernel
theorem dX1_leaveTail_7 : decode cX1_leaveTail 7 = .ok (.iload_n 1, 1) := by decide +kernel
theorem dX1_leaveTail_8 : decode cX1_leaveTail 8 = .ok (.if_icmp .ne 21, 3) := by decide +kernel
theorem dX1_leaveTail_11 : decode cX1_leaveTail 11 = .ok (.aload_n 0, 1) := by decide +kernel
theorem dX1_leaveTail_12 : decode cX1_leaveTail 12 = .ok (.getfield 11, 3) := by decide +kernel
theorem dX1_leaveTail_15 : decode cX1_leaveTail 15 = .ok (.bipush 49, 2) := by decide +kernel
theorem dX1_leaveTail_17 : decode cX1_leaveTail 17 = .ok (.bipush (-5), 2) := by decide +kernel
theorem dX1_leaveTail_19 : decode cX1_leaveTail 19 = .ok (.iastore, 1) := by decide +kernel
theorem dX1_leaveTail_20 : decode cX1_leaveTail 20 = .ok (.aload_n 0, 1) := by decide +kernel
theorem dX1_leaveTail_21 : decode cX1_leaveTail 21 = .ok (.iload_n 1, 1) := by decide +kernel
theorem dX1_leaveTail_22 : decode cX1_leaveTail 22 = .ok (.iconst 0, 1) := by decide +kernel
theorem dX1_leaveTail_23 : decode cX1_leaveTail 23 = .ok (.invokevirtual 61, 3) := by decide +kernel
theorem dX1_leaveTail_26 : decode cX1_leaveTail 26 = .ok (.goto 10, 3) := by decide +kernel
theorem dX1_leaveTail_29 : decode cX1_leaveTail 29 = .ok (.aload_n 0, 1) := by decide +kernel
theorem dX1_leaveTail_30 : decode cX1_leaveTail 30 = .ok (.iload_n 1, 1) := by decide +kernel
theorem dX1_leaveTail_31 : decode cX1_leaveTail 31 = .ok (.bipush 6, 2) := by decide +kernel
theorem dX1_leaveTail_33 : decode cX1_leaveTail 33 = .ok (.invokevirtual 61, 3) := by decide +kernel
theorem dX1_leaveTail_36 : decode cX1_leaveTail 36 = .ok (.return_, 1) := by decide +kernel
set_option maxRecDepth 20000 in
theorem ggX1_advanceWatching_X1_stage : GoodIn wsX1_advanceWatching wsX1_stage := goodIn_r _ [6, 1, 18] (by decide +kernel) (by decide +kernel)
set_option maxRecDepth 20000 in
theorem gX1_advanceWatching_X1_stage : GoodIn wsX1_advanceWatching (wsV RX1 33 RX1 yX1_stage wsX1_stage) := goodIn_app (goodIn_of _ (by decide +kernel)) ggX1_advanceWatching_X1_stage
set_option maxRecDepth 20000 in
theorem ggX1_advanceWatching_X1_setCardFlag : GoodIn wsX1_advanceWatching wsX1_setCardFlag := goodIn_r _ [10, 1, 11, 12, 13, 18] (by decide +kernel) (by decide +kernel)
set_option maxRecDepth 20000 in
theorem gX1_advanceWatching_X1_setCardFlag : GoodIn wsX1_advanceWatching (wsV RX1 77 RX1 yX1_setCardFlag wsX1_setCardFlag) := goodIn_app (goodIn_of _ (by decide +kernel)) ggX1_advanceWatching_X1_setCardFlag
set_option maxRecDepth 20000 in
theorem ggX1_advanceWatching_X1_moveTo : GoodIn wsX1_advanceWatching wsX1_moveTo := goodIn_r _ [17, 1, 18] (by decide +kernel) (by decide +kernel)
set_option maxRecDepth 20000 in
theorem gX1_advanceWatching_X1_moveTo : GoodIn wsX1_advanceWatching (wsV RX1 61 RX1 yX1_moveTo wsX1_moveTo) := goodIn_app (goodIn_of _ (by decide +kernel)) ggX1_advanceWatching_X1_moveTo
theorem dX1_advanceWatching_0 : decode cX1_advanceWatching 0 = .ok (.aload_n 0, 1) := by decide +kernel
theorem dX1_advanceWatching_1 : decode cX1_advanceWatching 1 = .ok (.iload_n 1, 1) := by decide +kernel
theorem dX1_advanceWatching_2 : decode cX1_advanceWatching 2 = .ok (.invokevirtual 33, 3) := by decide +kernel
theorem dX1_advanceWatching_5 : decode cX1_advanceWatching 5 = .ok (.tableswitch 104 0 3 #[31, 54, 104, 95], 31) := by decide +kernel
theorem dX1_advanceWatching_36 : decode cX1_advanceWatching 36 = .ok (.aload_n 0, 1) := by decide +kernel
theorem dX1_advanceWatching_37 : decode cX1_advanceWatching 37 = .ok (.aload_n 0, 1) := by decide +kernel
theorem dX1_advanceWatching_38 : decode cX1_advanceWatching 38 = .ok (.getfield 11, 3) := by decide +kernel
theorem dX1_advanceWatching_41 : decode cX1_advanceWatching 41 = .ok (.bipush 24, 2) := by decide +kernel
theorem dX1_advanceWatching_43 : decode cX1_advanceWatching 43 = .ok (.iload_n 1, 1) := by decide +kernel
theorem dX1_advanceWatching_44 : decode cX1_advanceWatching 44 = .ok (.iadd, 1) := by decide +kernel
theorem dX1_advanceWatching_45 : decode cX1_advanceWatching 45 = .ok (.iaload, 1) := by decide +kernel
theorem dX1_advanceWatching_46 : decode cX1_advanceWatching 46 = .ok (.iconst 1, 1) := by decide +kernel
theorem dX1_advanceWatching_47 : decode cX1_advanceWatching 47 = .ok (.invokevirtual 77, 3) := by decide +kernel
theorem dX1_advanceWatching_50 : decode cX1_advanceWatching 50 = .ok (.aload_n 0, 1) := by decide +kernel
theorem dX1_advanceWatching_51 : decode cX1_advanceWatching 51 = .ok (.iload_n 1, 1) := by decide +kernel
theorem dX1_advanceWatching_52 : decode cX1_advanceWatching 52 = .ok (.iconst 1, 1) := by decide +kernel
theorem dX1_advanceWatching_53 : decode cX1_advanceWatching 53 = .ok (.invokevirtual 61, 3) := by decide +kernel
theorem dX1_advanceWatching_56 : decode cX1_advanceWatching 56 = .ok (.goto 102, 3) := by decide +kernel
theorem dX1_advanceWatching_59 : decode cX1_advanceWatching 59 = .ok (.aload_n 0, 1) := by decide +kernel
theorem dX1_advanceWatching_60 : decode cX1_advanceWatching 60 = .ok (.getfield 11, 3) := by decide +kernel
theorem dX1_advanceWatching_63 : decode cX1_advanceWatching 63 = .ok (.bipush 30, 2) := by decide +kernel
theorem dX1_advanceWatching_65 : decode cX1_advanceWatching 65 = .ok (.iload_n 1, 1) := by decide +kernel
theorem dX1_advanceWatching_66 : decode cX1_advanceWatching 66 = .ok (.iadd, 1) := by decide +kernel
theorem dX1_advanceWatching_67 : decode cX1_advanceWatching 67 = .ok (.aload_n 0, 1) := by decide +kernel
theorem dX1_advanceWatching_68 : decode cX1_advanceWatching 68 = .ok (.getfield 11, 3) := by decide +kernel
theorem dX1_advanceWatching_71 : decode cX1_advanceWatching 71 = .ok (.bipush 49, 2) := by decide +kernel
theorem dX1_advanceWatching_73 : decode cX1_advanceWatching 73 = .ok (.iaload, 1) := by decide +kernel
theorem dX1_advanceWatching_74 : decode cX1_advanceWatching 74 = .ok (.iastore, 1) := by decide +kernel
theorem dX1_advanceWatching_75 : decode cX1_advanceWatching 75 = .ok (.aload_n 0, 1) := by decide +kernel
theorem dX1_advanceWatching_76 : decode cX1_advanceWatching 76 = .ok (.getfield 11, 3) := by decide +kernel
theorem dX1_advanceWatching_79 : decode cX1_advanceWatching 79 = .ok (.bipush 49, 2) := by decide +kernel
theorem dX1_advanceWatching_81 : decode cX1_advanceWatching 81 = .ok (.aload_n 0, 1) := by decide +kernel
theorem dX1_advanceWatching_82 : decode cX1_advanceWatching 82 = .ok (.getfield 11, 3) := by decide +kernel
theorem dX1_advanceWatching_85 : decode cX1_advanceWatching 85 = .ok (.bipush 24, 2) := by decide +kernel
theorem dX1_advanceWatching_87 : decode cX1_advanceWatching 87 = .ok (.iload_n 1, 1) := by decide +kernel
theorem dX1_advanceWatching_88 : decode cX1_advanceWatching 88 = .ok (.iadd, 1) := by decide +kernel
theorem dX1_advanceWatching_89 : decode cX1_advanceWatching 89 = .ok (.iaload, 1) := by decide +kernel
theorem dX1_advanceWatching_90 : decode cX1_advanceWatching 90 = .ok (.iastore, 1) := by decide +kernel
theorem dX1_advanceWatching_91 : decode cX1_advanceWatching 91 = .ok (.aload_n 0, 1) := by decide +kernel
theorem dX1_advanceWatching_92 : decode cX1_advanceWatching 92 = .ok (.iload_n 1, 1) := by decide +kernel
theorem dX1_advanceWatching_93 : decode cX1_advanceWatching 93 = .ok (.iconst 3, 1) := by decide +kernel
theorem dX1_advanceWatching_94 : decode cX1_advanceWatching 94 = .ok (.invokevirtual 61, 3) := by decide +kernel
theorem dX1_advanceWatching_97 : decode cX1_advanceWatching 97 = .ok (.goto 61, 3) := by decide +kernel
theorem dX1_advanceWatching_100 : decode cX1_advanceWatching 100 = .ok (.aload_n 0, 1) := by decide +kernel
theorem dX1_advanceWatching_101 : decode cX1_advanceWatching 101 = .ok (.iload_n 1, 1) := by decide +kernel
theorem dX1_advanceWatching_102 : decode cX1_advanceWatching 102 = .ok (.iconst 4, 1) := by decide +kernel
theorem dX1_advanceWatching_103 : decode cX1_advanceWatching 103 = .ok (.invokevirtual 61, 3) := by decide +kernel
theorem dX1_advanceWatching_106 : decode cX1_advanceWatching 106 = .ok (.goto 52, 3) := by decide +kernel
theorem dX1_advanceWatching_109 : decode cX1_advanceWatching 109 = .ok (.aload_n 0, 1) := by decide +kernel
theorem dX1_advanceWatching_110 : decode cX1_advanceWatching 110 = .ok (.aload_n 0, 1) := by decide +kernel
theorem dX1_advanceWatching_111 : decode cX1_advanceWatching 111 = .ok (.getfield 11, 3) := by decide +kernel
theorem dX1_advanceWatching_114 : decode cX1_advanceWatching 114 = .ok (.bipush 24, 2) := by decide +kernel
theorem dX1_advanceWatching_116 : decode cX1_advanceWatching 116 = .ok (.iload_n 1, 1) := by decide +kernel
theorem dX1_advanceWatching_117 : decode cX1_advanceWatching 117 = .ok (.iadd, 1) := by decide +kernel
theorem dX1_advanceWatching_118 : decode cX1_advanceWatching 118 = .ok (.iaload, 1) := by decide +kernel
theorem dX1_advanceWatching_119 : decode cX1_advanceWatching 119 = .ok (.iconst 0, 1) := by decide +kernel
theorem dX1_advanceWatching_120 : decode cX1_advanceWatching 120 = .ok (.invokevirtual 77, 3) := by decide +kernel
theorem dX1_advanceWatching_123 : decode cX1_advanceWatching 123 = .ok (.aload_n 0, 1) := by decide +kernel
theorem dX1_advanceWatching_124 : decode cX1_advanceWatching 124 = .ok (.getfield 11, 3) := by decide +kernel
theorem dX1_advanceWatching_127 : decode cX1_advanceWatching 127 = .ok (.bipush 24, 2) := by decide +kernel
theorem dX1_advanceWatching_129 : decode cX1_advanceWatching 129 = .ok (.iload_n 1, 1) := by decide +kernel
theorem dX1_advanceWatching_130 : decode cX1_advanceWatching 130 = .ok (.iadd, 1) := by decide +kernel
theorem dX1_advanceWatching_131 : decode cX1_advanceWatching 131 = .ok (.aload_n 0, 1) := by decide +kernel
theorem dX1_advanceWatching_132 : decode cX1_advanceWatching 132 = .ok (.getfield 11, 3) := by decide +kernel
theorem dX1_advanceWatching_135 : decode cX1_advanceWatching 135 = .ok (.bipush 30, 2) := by decide +kernel
theorem dX1_advanceWatching_137 : decode cX1_advanceWatching 137 = .ok (.iload_n 1, 1) := by decide +kernel
theorem dX1_advanceWatching_138 : decode cX1_advanceWatching 138 = .ok (.iadd, 1) := by decide +kernel
theorem dX1_advanceWatching_139 : decode cX1_advanceWatching 139 = .ok (.iaload, 1) := by decide +kernel
theorem dX1_advanceWatching_140 : decode cX1_advanceWatching 140 = .ok (.iastore, 1) := by decide +kernel
theorem dX1_advanceWatching_141 : decode cX1_advanceWatching 141 = .ok (.aload_n 0, 1) := by decide +kernel
theorem dX1_advanceWatching_142 : decode cX1_advanceWatching 142 = .ok (.getfield 11, 3) := by decide +kernel
theorem dX1_advanceWatching_145 : decode cX1_advanceWatching 145 = .ok (.bipush 30, 2) := by decide +kernel
theorem dX1_advanceWatching_147 : decode cX1_advanceWatching 147 = .ok (.iload_n 1, 1) := by decide +kernel
theorem dX1_advanceWatching_148 : decode cX1_advanceWatching 148 = .ok (.iadd, 1) := by decide +kernel
theorem dX1_advanceWatching_149 : decode cX1_advanceWatching 149 = .ok (.bipush (-5), 2) := by decide +kernel
theorem dX1_advanceWatching_151 : decode cX1_advanceWatching 151 = .ok (.iastore, 1) := by decide +kernel
theorem dX1_advanceWatching_152 : decode cX1_advanceWatching 152 = .ok (.aload_n 0, 1) := by decide +kernel
theorem dX1_advanceWatching_153 : decode cX1_advanceWatching 153 = .ok (.iload_n 1, 1) := by decide +kernel
theorem dX1_advanceWatching_154 : decode cX1_advanceWatching 154 = .ok (.iconst 0, 1) := by decide +kernel
theorem dX1_advanceWatching_155 : decode cX1_advanceWatching 155 = .ok (.invokevirtual 61, 3) := by decide +kernel
theorem dX1_advanceWatching_158 : decode cX1_advanceWatching 158 = .ok (.return_, 1) := by decide +kernel
set_option maxRecDepth 20000 in
theorem ggX1_setCardFlag_X4_isCard : GoodIn wsX1_setCardFlag wsX4_isCard := goodIn_r _ [4] (by decide +kernel) (by decide +kernel)
set_option maxRecDepth 20000 in
theorem gX1_setCardFlag_X4_isCard_n29 : GoodIn wsX1_setCardFlag (wsX4_isCard) := ggX1_setCardFlag_X4_isCard
theorem dX1_setCardFlag_0 : decode cX1_setCardFlag 0 = .ok (.iload_n 1, 1) := by decide +kernel
theorem dX1_setCardFlag_1 : decode cX1_setCardFlag 1 = .ok (.invokestatic 29, 3) := by decide +kernel
theorem dX1_setCardFlag_4 : decode cX1_setCardFlag 4 = .ok (.ifCond .eq 13, 3) := by decide +kernel
theorem dX1_setCardFlag_7 : decode cX1_setCardFlag 7 = .ok (.aload_n 0, 1) := by decide +kernel
theorem dX1_setCardFlag_8 : decode cX1_setCardFlag 8 = .ok (.getfield 11, 3) := by decide +kernel
theorem dX1_setCardFlag_11 : decode cX1_setCardFlag 11 = .ok (.bipush 42, 2) := by decide +kernel
theorem dX1_setCardFlag_13 : decode cX1_setCardFlag 13 = .ok (.iload_n 1, 1) := by decide +kernel
theorem dX1_setCardFlag_14 : decode cX1_setCardFlag 14 = .ok (.iadd, 1) := by decide +kernel
theorem dX1_setCardFlag_15 : decode cX1_setCardFlag 15 = .ok (.iload_n 2, 1) := by decide +kernel
theorem dX1_setCardFlag_16 : decode cX1_setCardFlag 16 = .ok (.iastore, 1) := by decide +kernel
theorem dX1_setCardFlag_17 : decode cX1_setCardFlag 17 = .ok (.return_, 1) := by decide +kernel
set_option maxRecDepth 20000 in
theorem ggX1_advanceTickets_X1_stage : GoodIn wsX1_advanceTickets wsX1_stage := goodIn_r _ [6, 1, 11] (by decide +kernel) (by decide +kernel)
set_option maxRecDepth 20000 in
theorem gX1_advanceTickets_X1_stage : GoodIn wsX1_advanceTickets (wsV RX1 33 RX1 yX1_stage wsX1_stage) := goodIn_app (goodIn_of _ (by decide +kernel)) ggX1_advanceTickets_X1_stage
set_option maxRecDepth 20000 in
theorem ggX1_advanceTickets_X1_moveTo : GoodIn wsX1_advanceTickets wsX1_moveTo := goodIn_r _ [10, 1, 11] (by decide +kernel) (by decide +kernel)
set_option maxRecDepth 20000 in
theorem gX1_advanceTickets_X1_moveTo : GoodIn wsX1_advanceTickets (wsV RX1 61 RX1 yX1_moveTo wsX1_moveTo) := goodIn_app (goodIn_of _ (by decide +kernel)) ggX1_advanceTickets_X1_moveTo
theorem dX1_advanceTickets_0 : decode cX1_advanceTickets 0 = .ok (.aload_n 0, 1) := by decide +kernel
theorem dX1_advanceTickets_1 : decode cX1_advanceTickets 1 = .ok (.iload_n 1, 1) := by decide +kernel
theorem dX1_advanceTickets_2 : decode cX1_advanceTickets 2 = .ok (.invokevirtual 33, 3) := by decide +kernel
theorem dX1_advanceTickets_5 : decode cX1_advanceTickets 5 = .ok (.lookupswitch 72 #[(0, 27), (3, 63)], 27) := by decide +kernel
theorem dX1_advanceTickets_32 : decode cX1_advanceTickets 32 = .ok (.aload_n 0, 1) := by decide +kernel
theorem dX1_advanceTickets_33 : decode cX1_advanceTickets 33 = .ok (.getfield 11, 3) := by decide +kernel
theorem dX1_advanceTickets_36 : decode cX1_advanceTickets 36 = .ok (.bipush 36, 2) := by decide +kernel
theorem dX1_advanceTickets_38 : decode cX1_advanceTickets 38 = .ok (.iload_n 1, 1) := by decide +kernel
theorem dX1_advanceTickets_39 : decode cX1_advanceTickets 39 = .ok (.iadd, 1) := by decide +kernel
theorem dX1_advanceTickets_40 : decode cX1_advanceTickets 40 = .ok (.aload_n 0, 1) := by decide +kernel
theorem dX1_advanceTickets_41 : decode cX1_advanceTickets 41 = .ok (.getfield 11, 3) := by decide +kernel
theorem dX1_advanceTickets_44 : decode cX1_advanceTickets 44 = .ok (.bipush 50, 2) := by decide +kernel
theorem dX1_advanceTickets_46 : decode cX1_advanceTickets 46 = .ok (.iaload, 1) := by decide +kernel
theorem dX1_advanceTickets_47 : decode cX1_advanceTickets 47 = .ok (.iastore, 1) := by decide +kernel
theorem dX1_advanceTickets_48 : decode cX1_advanceTickets 48 = .ok (.aload_n 0, 1) := by decide +kernel
theorem dX1_advanceTickets_49 : decode cX1_advanceTickets 49 = .ok (.getfield 11, 3) := by decide +kernel
theorem dX1_advanceTickets_52 : decode cX1_advanceTickets 52 = .ok (.bipush 50, 2) := by decide +kernel
theorem dX1_advanceTickets_54 : decode cX1_advanceTickets 54 = .ok (.dup2, 1) := by decide +kernel
theorem dX1_advanceTickets_55 : decode cX1_advanceTickets 55 = .ok (.iaload, 1) := by decide +kernel
theorem dX1_advanceTickets_56 : decode cX1_advanceTickets 56 = .ok (.iconst 1, 1) := by decide +kernel
theorem dX1_advanceTickets_57 : decode cX1_advanceTickets 57 = .ok (.iadd, 1) := by decide +kernel
theorem dX1_advanceTickets_58 : decode cX1_advanceTickets 58 = .ok (.iastore, 1) := by decide +kernel
theorem dX1_advanceTickets_59 : decode cX1_advanceTickets 59 = .ok (.aload_n 0, 1) := by decide +kernel
theorem dX1_advanceTickets_60 : decode cX1_advanceTickets 60 = .ok (.iload_n 1, 1) := by decide +kernel
theorem dX1_advanceTickets_61 : decode cX1_advanceTickets 61 = .ok (.iconst 3, 1) := by decide +kernel
theorem dX1_advanceTickets_62 : decode cX1_advanceTickets 62 = .ok (.invokevirtual 61, 3) := by decide +kernel
theorem dX1_advanceTickets_65 : decode cX1_advanceTickets 65 = .ok (.goto 40, 3) := by decide +kernel
theorem dX1_advanceTickets_68 : decode cX1_advanceTickets 68 = .ok (.aload_n 0, 1) := by decide +kernel
theorem dX1_advanceTickets_69 : decode cX1_advanceTickets 69 = .ok (.iload_n 1, 1) := by decide +kernel
theorem dX1_advanceTickets_70 : decode cX1_advanceTickets 70 = .ok (.iconst 4, 1) := by decide +kernel
theorem dX1_advanceTickets_71 : decode cX1_advanceTickets 71 = .ok (.invokevirtual 61, 3) := by decide +kernel
theorem dX1_advanceTickets_74 : decode cX1_advanceTickets 74 = .ok (.goto 31, 3) := by decide +kernel
theorem dX1_advanceTickets_77 : decode cX1_advanceTickets 77 = .ok (.aload_n 0, 1) := by decide +kernel
theorem dX1_advanceTickets_78 : decode cX1_advanceTickets 78 = .ok (.getfield 11, 3) := by decide +kernel
theorem dX1_advanceTickets_81 : decode cX1_advanceTickets 81 = .ok (.bipush 51, 2) := by decide +kernel
theorem dX1_advanceTickets_83 : decode cX1_advanceTickets 83 = .ok (.dup2, 1) := by decide +kernel
theorem dX1_advanceTickets_84 : decode cX1_advanceTickets 84 = .ok (.iaload, 1) := by decide +kernel
theorem dX1_advanceTickets_85 : decode cX1_advanceTickets 85 = .ok (.iconst 1, 1) := by decide +kernel
theorem dX1_advanceTickets_86 : decode cX1_advanceTickets 86 = .ok (.iadd, 1) := by decide +kernel
theorem dX1_advanceTickets_87 : decode cX1_advanceTickets 87 = .ok (.iastore, 1) := by decide +kernel
theorem dX1_advanceTickets_88 : decode cX1_advanceTickets 88 = .ok (.aload_n 0, 1) := by decide +kernel
theorem dX1_advanceTickets_89 : decode cX1_advanceTickets 89 = .ok (.getfield 11, 3) := by decide +kernel
theorem dX1_advanceTickets_92 : decode cX1_advanceTickets 92 = .ok (.bipush 36, 2) := by decide +kernel
theorem dX1_advanceTickets_94 : decode cX1_advanceTickets 94 = .ok (.iload_n 1, 1) := by decide +kernel
theorem dX1_advanceTickets_95 : decode cX1_advanceTickets 95 = .ok (.iadd, 1) := by decide +kernel
theorem dX1_advanceTickets_96 : decode cX1_advanceTickets 96 = .ok (.bipush (-5), 2) := by decide +kernel
theorem dX1_advanceTickets_98 : decode cX1_advanceTickets 98 = .ok (.iastore, 1) := by decide +kernel
theorem dX1_advanceTickets_99 : decode cX1_advanceTickets 99 = .ok (.aload_n 0, 1) := by decide +kernel
theorem dX1_advanceTickets_100 : decode cX1_advanceTickets 100 = .ok (.iload_n 1, 1) := by decide +kernel
theorem dX1_advanceTickets_101 : decode cX1_advanceTickets 101 = .ok (.iconst 0, 1) := by decide +kernel
theorem dX1_advanceTickets_102 : decode cX1_advanceTickets 102 = .ok (.invokevirtual 61, 3) := by decide +kernel
theorem dX1_advanceTickets_105 : decode cX1_advanceTickets 105 = .ok (.return_, 1) := by decide +kernel
set_option maxRecDepth 20000 in
theorem ggX1_advanceGrabbing_X1_stage : GoodIn wsX1_advanceGrabbing wsX1_stage := goodIn_r _ [6, 1, 11] (by decide +kernel) (by decide +kernel)
set_option maxRecDepth 20000 in
theorem gX1_advanceGrabbing_X1_stage : GoodIn wsX1_advanceGrabbing (wsV RX1 33 RX1 yX1_stage wsX1_stage) := goodIn_app (goodIn_of _ (by decide +kernel)) ggX1_advanceGrabbing_X1_stage
set_option maxRecDepth 20000 in
theorem ggX1_advanceGrabbing_X1_moveTo : GoodIn wsX1_advanceGrabbing wsX1_moveTo := goodIn_r _ [10, 1, 11] (by decide +kernel) (by decide +kernel)
set_option maxRecDepth 20000 in
theorem gX1_advanceGrabbing_X1_moveTo : GoodIn wsX1_advanceGrabbing (wsV RX1 61 RX1 yX1_moveTo wsX1_moveTo) := goodIn_app (goodIn_of _ (by decide +kernel)) ggX1_advanceGrabbing_X1_moveTo
theorem dX1_advanceGrabbing_0 : decode cX1_advanceGrabbing 0 = .ok (.aload_n 0, 1) := by decide +kernel
theorem dX1_advanceGrabbing_1 : decode cX1_advanceGrabbing 1 = .ok (.iload_n 1, 1) := by decide +kernel
theorem dX1_advanceGrabbing_2 : decode cX1_advanceGrabbing 2 = .ok (.invokevirtual 33, 3) := by decide +kernel
theorem dX1_advanceGrabbing_5 : decode cX1_advanceGrabbing 5 = .ok (.lookupswitch 53 #[(0, 27), (3, 36)], 27) := by decide +kernel
theorem dX1_advanceGrabbing_32 : decode cX1_advanceGrabbing 32 = .ok (.aload_n 0, 1) := by decide +kernel
theorem dX1_advanceGrabbing_33 : decode cX1_advanceGrabbing 33 = .ok (.iload_n 1, 1) := by decide +kernel
theorem dX1_advanceGrabbing_34 : decode cX1_advanceGrabbing 34 = .ok (.iconst 3, 1) := by decide +kernel
theorem dX1_advanceGrabbing_35 : decode cX1_advanceGrabbing 35 = .ok (.invokevirtual 61, 3) := by decide +kernel
theorem dX1_advanceGrabbing_38 : decode cX1_advanceGrabbing 38 = .ok (.goto 34, 3) := by decide +kernel
theorem dX1_advanceGrabbing_41 : decode cX1_advanceGrabbing 41 = .ok (.aload_n 0, 1) := by decide +kernel
theorem dX1_advanceGrabbing_42 : decode cX1_advanceGrabbing 42 = .ok (.getfield 11, 3) := by decide +kernel
theorem dX1_advanceGrabbing_45 : decode cX1_advanceGrabbing 45 = .ok (.bipush 52, 2) := by decide +kernel
theorem dX1_advanceGrabbing_47 : decode cX1_advanceGrabbing 47 = .ok (.iconst 1, 1) := by decide +kernel
theorem dX1_advanceGrabbing_48 : decode cX1_advanceGrabbing 48 = .ok (.iastore, 1) := by decide +kernel
theorem dX1_advanceGrabbing_49 : decode cX1_advanceGrabbing 49 = .ok (.aload_n 0, 1) := by decide +kernel
theorem dX1_advanceGrabbing_50 : decode cX1_advanceGrabbing 50 = .ok (.iload_n 1, 1) := by decide +kernel
theorem dX1_advanceGrabbing_51 : decode cX1_advanceGrabbing 51 = .ok (.iconst 4, 1) := by decide +kernel
theorem dX1_advanceGrabbing_52 : decode cX1_advanceGrabbing 52 = .ok (.invokevirtual 61, 3) := by decide +kernel
theorem dX1_advanceGrabbing_55 : decode cX1_advanceGrabbing 55 = .ok (.goto 17, 3) := by decide +kernel
theorem dX1_advanceGrabbing_58 : decode cX1_advanceGrabbing 58 = .ok (.aload_n 0, 1) := by decide +kernel
theorem dX1_advanceGrabbing_59 : decode cX1_advanceGrabbing 59 = .ok (.getfield 11, 3) := by decide +kernel
theorem dX1_advanceGrabbing_62 : decode cX1_advanceGrabbing 62 = .ok (.bipush 52, 2) := by decide +kernel
theorem dX1_advanceGrabbing_64 : decode cX1_advanceGrabbing 64 = .ok (.iconst 0, 1) := by decide +kernel
theorem dX1_advanceGrabbing_65 : decode cX1_advanceGrabbing 65 = .ok (.iastore, 1) := by decide +kernel
theorem dX1_advanceGrabbing_66 : decode cX1_advanceGrabbing 66 = .ok (.aload_n 0, 1) := by decide +kernel
theorem dX1_advanceGrabbing_67 : decode cX1_advanceGrabbing 67 = .ok (.iload_n 1, 1) := by decide +kernel
theorem dX1_advanceGrabbing_68 : decode cX1_advanceGrabbing 68 = .ok (.iconst 0, 1) := by decide +kernel
theorem dX1_advanceGrabbing_69 : decode cX1_advanceGrabbing 69 = .ok (.invokevirtual 61, 3) := by decide +kernel
theorem dX1_advanceGrabbing_72 : decode cX1_advanceGrabbing 72 = .ok (.return_, 1) := by decide +kernel
theorem dX1_moveTo_0 : decode cX1_moveTo 0 = .ok (.aload_n 0, 1) := by decide +kernel
theorem dX1_moveTo_1 : decode cX1_moveTo 1 = .ok (.getfield 11, 3) := by decide +kernel
theorem dX1_moveTo_4 : decode cX1_moveTo 4 = .ok (.iconst 0, 1) := by decide +kernel
theorem dX1_moveTo_5 : decode cX1_moveTo 5 = .ok (.iload_n 1, 1) := by decide +kernel
theorem dX1_moveTo_6 : decode cX1_moveTo 6 = .ok (.iadd, 1) := by decide +kernel
theorem dX1_moveTo_7 : decode cX1_moveTo 7 = .ok (.iload_n 2, 1) := by decide +kernel
theorem dX1_moveTo_8 : decode cX1_moveTo 8 = .ok (.iastore, 1) := by decide +kernel
theorem dX1_moveTo_9 : decode cX1_moveTo 9 = .ok (.return_, 1) := by decide +kernel
theorem dX2_init_0 : decode cX2_init 0 = .ok (.aload_n 0, 1) := by decide +kernel
theorem dX2_init_1 : decode cX2_init 1 = .ok (.invokespecial 3, 3) := by decide +kernel
theorem dX2_init_4 : decode cX2_init 4 = .ok (.aload_n 0, 1) := by decide +kernel
theorem dX2_init_5 : decode cX2_init 5 = .ok (.sipush 2000, 3) := by decide +kernel
theorem dX2_init_8 : decode cX2_init 8 = .ok (.newarray .byte, 2) := by decide +kernel
theorem dX2_init_10 : decode cX2_init 10 = .ok (.putfield 9, 3) := by decide +kernel
theorem dX2_init_13 : decode cX2_init 13 = .ok (.aload_n 0, 1) := by decide +kernel
theorem dX2_init_14 : decode cX2_init 14 = .ok (.bipush 60, 2) := by decide +kernel
theorem dX2_init_16 : decode cX2_init 16 = .ok (.newarray .int, 2) := by decide +kernel
theorem dX2_init_18 : decode cX2_init 18 = .ok (.putfield 15, 3) := by decide +kernel
theorem dX2_init_21 : decode cX2_init 21 = .ok (.aload_n 0, 1) := by decide +kernel
theorem dX2_init_22 : decode cX2_init 22 = .ok (.bipush 60, 2) := by decide +kernel
theorem dX2_init_24 : decode cX2_init 24 = .ok (.newarray .int, 2) := by decide +kernel
theorem dX2_init_26 : decode cX2_init 26 = .ok (.putfield 19, 3) := by decide +kernel
theorem dX2_init_29 : decode cX2_init 29 = .ok (.aload_n 0, 1) := by decide +kernel
theorem dX2_init_30 : decode cX2_init 30 = .ok (.iconst 0, 1) := by decide +kernel
theorem dX2_init_31 : decode cX2_init 31 = .ok (.putfield 22, 3) := by decide +kernel
theorem dX2_init_34 : decode cX2_init 34 = .ok (.aload_n 0, 1) := by decide +kernel
theorem dX2_init_35 : decode cX2_init 35 = .ok (.iconst 0, 1) := by decide +kernel
theorem dX2_init_36 : decode cX2_init 36 = .ok (.putfield 26, 3) := by decide +kernel
theorem dX2_init_39 : decode cX2_init 39 = .ok (.return_, 1) := by decide +kernel
set_option maxRecDepth 20000 in
theorem ggX2_fault_X2_isLetter : GoodIn wsX2_fault wsX2_isLetter := goodIn_r _ [4] (by decide +kernel) (by decide +kernel)
set_option maxRecDepth 20000 in
theorem gX2_fault_X2_isLetter : GoodIn wsX2_fault (va_wsS RX2 29 yX2_isLetter wsX2_isLetter) := goodIn_app (goodIn_of _ (by decide +kernel)) ggX2_fault_X2_isLetter
set_option maxRecDepth 20000 in
theorem ggX2_fault_X2_isDigit : GoodIn wsX2_fault wsX2_isDigit := goodIn_r _ [7] (by decide +kernel) (by decide +kernel)
set_option maxRecDepth 20000 in
theorem gX2_fault_X2_isDigit : GoodIn wsX2_fault (va_wsS RX2 33 yX2_isDigit wsX2_isDigit) := goodIn_app (goodIn_of _ (by decide +kernel)) ggX2_fault_X2_isDigit
theorem dX2_fault_0 : decode cX2_fault 0 = .ok (.iconst 0, 1) := by decide +kernel
theorem dX2_fault_1 : decode cX2_fault 1 = .ok (.istore_n 2, 1) := by decide +kernel
theorem dX2_fault_2 : decode cX2_fault 2 = .ok (.iconst 0, 1) := by decide +kernel
theorem dX2_fault_3 : decode cX2_fault 3 = .ok (.istore_n 3, 1) := by decide +kernel
theorem dX2_fault_4 : decode cX2_fault 4 = .ok (.iconst 0, 1) := by decide +kernel
theorem dX2_fault_5 : decode cX2_fault 5 = .ok (.istore 4, 2) := by decide +kernel
theorem dX2_fault_7 : decode cX2_fault 7 = .ok (.iconst 0, 1) := by decide +kernel
theorem dX2_fault_8 : decode cX2_fault 8 = .ok (.istore 5, 2) := by decide +kernel
theorem dX2_fault_10 : decode cX2_fault 10 = .ok (.iload 5, 2) := by decide +kernel
theorem dX2_fault_12 : decode cX2_fault 12 = .ok (.iload_n 1, 1) := by decide +kernel
theorem dX2_fault_13 : decode cX2_fault 13 = .ok (.if_icmp .ge 101, 3) := by decide +kernel
theorem dX2_fault_16 : decode cX2_fault 16 = .ok (.iload 5, 2) := by decide +kernel
theorem dX2_fault_18 : decode cX2_fault 18 = .ok (.aload_n 0, 1) := by decide +kernel
theorem dX2_fault_19 : decode cX2_fault 19 = .ok (.arraylength, 1) := by decide +kernel
theorem dX2_fault_20 : decode cX2_fault 20 = .ok (.if_icmp .ge 94, 3) := by decide +kernel
theorem dX2_fault_23 : decode cX2_fault 23 = .ok (.aload_n 0, 1) := by decide +kernel
theorem dX2_fault_24 : decode cX2_fault 24 = .ok (.iload 5, 2) := by decide +kernel
theorem dX2_fault_26 : decode cX2_fault 26 = .ok (.caload, 1) := by decide +kernel
theorem dX2_fault_27 : decode cX2_fault 27 = .ok (.istore 6, 2) := by decide +kernel
theorem dX2_fault_29 : decode cX2_fault 29 = .ok (.iload 6, 2) := by decide +kernel
theorem dX2_fault_31 : decode cX2_fault 31 = .ok (.invokestatic 29, 3) := by decide +kernel
theorem dX2_fault_34 : decode cX2_fault 34 = .ok (.ifCond .eq 11, 3) := by decide +kernel
theorem dX2_fault_37 : decode cX2_fault 37 = .ok (.iconst 1, 1) := by decide +kernel
theorem dX2_fault_38 : decode cX2_fault 38 = .ok (.istore_n 3, 1) := by decide +kernel
theorem dX2_fault_39 : decode cX2_fault 39 = .ok (.iconst 0, 1) := by decide +kernel
theorem dX2_fault_40 : decode cX2_fault 40 = .ok (.istore 4, 2) := by decide +kernel
theorem dX2_fault_42 : decode cX2_fault 42 = .ok (.goto 66, 3) := by decide +kernel
theorem dX2_fault_45 : decode cX2_fault 45 = .ok (.iload 6, 2) := by decide +kernel
theorem dX2_fault_47 : decode cX2_fault 47 = .ok (.bipush 40, 2) := by decide +kernel
theorem dX2_fault_49 : decode cX2_fault 49 = .ok (.if_icmp .ne 14, 3) := by decide +kernel
theorem dX2_fault_52 : decode cX2_fault 52 = .ok (.iinc 2 1, 3) := by decide +kernel
theorem dX2_fault_55 : decode cX2_fault 55 = .ok (.iconst 0, 1) := by decide +kernel
theorem dX2_fault_56 : decode cX2_fault 56 = .ok (.istore_n 3, 1) := by decide +kernel
theorem dX2_fault_57 : decode cX2_fault 57 = .ok (.iconst 0, 1) := by decide +kernel
theorem dX2_fault_58 : decode cX2_fault 58 = .ok (.istore 4, 2) := by decide +kernel
theorem dX2_fault_60 : decode cX2_fault 60 = .ok (.goto 48, 3) := by decide +kernel
theorem dX2_fault_63 : decode cX2_fault 63 = .ok (.iload 6, 2) := by decide +kernel
theorem dX2_fault_65 : decode cX2_fault 65 = .ok (.bipush 41, 2) := by decide +kernel
theorem dX2_fault_67 : decode cX2_fault 67 = .ok (.if_icmp .ne 17, 3) := by decide +kernel
theorem dX2_fault_70 : decode cX2_fault 70 = .ok (.iload_n 3, 1) := by decide +kernel
theorem dX2_fault_71 : decode cX2_fault 71 = .ok (.ifCond .eq 13, 3) := by decide +kernel
theorem dX2_fault_74 : decode cX2_fault 74 = .ok (.iload_n 2, 1) := by decide +kernel
theorem dX2_fault_75 : decode cX2_fault 75 = .ok (.ifCond .le 9, 3) := by decide +kernel
theorem dX2_fault_78 : decode cX2_fault 78 = .ok (.iinc 2 (-1), 3) := by decide +kernel
theorem dX2_fault_81 : decode cX2_fault 81 = .ok (.goto 27, 3) := by decide +kernel
theorem dX2_fault_84 : decode cX2_fault 84 = .ok (.iload 6, 2) := by decide +kernel
theorem dX2_fault_86 : decode cX2_fault 86 = .ok (.invokestatic 33, 3) := by decide +kernel
theorem dX2_fault_89 : decode cX2_fault 89 = .ok (.ifCond .eq 16, 3) := by decide +kernel
theorem dX2_fault_92 : decode cX2_fault 92 = .ok (.iload 4, 2) := by decide +kernel
theorem dX2_fault_94 : decode cX2_fault 94 = .ok (.ifCond .ne 11, 3) := by decide +kernel
theorem dX2_fault_97 : decode cX2_fault 97 = .ok (.iconst 0, 1) := by decide +kernel
theorem dX2_fault_98 : decode cX2_fault 98 = .ok (.istore_n 3, 1) := by decide +kernel
theorem dX2_fault_99 : decode cX2_fault 99 = .ok (.iconst 1, 1) := by decide +kernel
theorem dX2_fault_100 : decode cX2_fault 100 = .ok (.istore 4, 2) := by decide +kernel
theorem dX2_fault_102 : decode cX2_fault 102 = .ok (.goto 6, 3) := by decide +kernel
theorem dX2_fault_105 : decode cX2_fault 105 = .ok (.iload 5, 2) := by decide +kernel
theorem dX2_fault_107 : decode cX2_fault 107 = .ok (.ireturn, 1) := by decide +kernel
theorem dX2_fault_108 : decode cX2_fault 108 = .ok (.iinc 5 1, 3) := by decide +kernel
theorem dX2_fault_111 : decode cX2_fault 111 = .ok (.goto (-101), 3) := by decide +kernel
theorem dX2_fault_114 : decode cX2_fault 114 = .ok (.iload_n 3, 1) := by decide +kernel
theorem dX2_fault_115 : decode cX2_fault 115 = .ok (.ifCond .eq 12, 3) := by decide +kernel
theorem dX2_fault_118 : decode cX2_fault 118 = .ok (.iload_n 2, 1) := by decide +kernel
theorem dX2_fault_119 : decode cX2_fault 119 = .ok (.ifCond .ne 8, 3) := by decide +kernel
theorem dX2_fault_122 : decode cX2_fault 122 = .ok (.bipush (-5), 2) := by decide +kernel
theorem dX2_fault_124 : decode cX2_fault 124 = .ok (.goto 4, 3) := by decide +kernel
theorem dX2_fault_127 : decode cX2_fault 127 = .ok (.iload_n 1, 1) := by decide +kernel
theorem dX2_fault_128 : decode cX2_fault 128 = .ok (.ireturn, 1) := by decide +kernel
theorem dX2_isLetter_0 : decode cX2_isLetter 0 = .ok (.iload_n 0, 1) := by decide +kernel
theorem dX2_isLetter_1 : decode cX2_isLetter 1 = .ok (.bipush 97, 2) := by decide +kernel
theorem dX2_isLetter_3 : decode cX2_isLetter 3 = .ok (.if_icmp .lt 13, 3) := by decide +kernel
theorem dX2_isLetter_6 : decode cX2_isLetter 6 = .ok (.iload_n 0, 1) := by decide +kernel
theorem dX2_isLetter_7 : decode cX2_isLetter 7 = .ok (.bipush 103, 2) := by decide +kernel
theorem dX2_isLetter_9 : decode cX2_isLetter 9 = .ok (.if_icmp .ge 7, 3) := by decide +kernel
theorem dX2_isLetter_12 : decode cX2_isLetter 12 = .ok (.iconst 1, 1) := by decide +kernel
theorem dX2_isLetter_13 : decode cX2_isLetter 13 = .ok (.goto 4, 3) := by decide +kernel
theorem dX2_isLetter_16 : decode cX2_isLetter 16 = .ok (.iconst 0, 1) := by decide +kernel
theorem dX2_isLetter_17 : decode cX2_isLetter 17 = .ok (.ireturn, 1) := by decide +kernel
theorem dX2_isDigit_0 : decode cX2_isDigit 0 = .ok (.iload_n 0, 1) := by decide +kernel
theorem dX2_isDigit_1 : decode cX2_isDigit 1 = .ok (.bipush 50, 2) := by decide +kernel
theorem dX2_isDigit_3 : decode cX2_isDigit 3 = .ok (.if_icmp .lt 13, 3) := by decide +kernel
theorem dX2_isDigit_6 : decode cX2_isDigit 6 = .ok (.iload_n 0, 1) := by decide +kernel
theorem dX2_isDigit_7 : decode cX2_isDigit 7 = .ok (.bipush 57, 2) := by decide +kernel
theorem dX2_isDigit_9 : decode cX2_isDigit 9 = .ok (.if_icmp .gt 7, 3) := by decide +kernel
theorem dX2_isDigit_12 : decode cX2_isDigit 12 = .ok (.iconst 1, 1) := by decide +kernel
theorem dX2_isDigit_13 : decode cX2_isDigit 13 = .ok (.goto 4, 3) := by decide +kernel
theorem dX2_isDigit_16 : decode cX2_isDigit 16 = .ok (.iconst 0, 1) := by decide +kernel
theorem dX2_isDigit_17 : decode cX2_isDigit 17 = .ok (.ireturn, 1) := by decide +kernel
theorem dX2_visitorAt_0 : decode cX2_visitorAt 0 = .ok (.iload_n 1, 1) := by decide +kernel
theorem dX2_visitorAt_1 : decode cX2_visitorAt 1 = .ok (.ifCond .lt 20, 3) := by decide +kernel
theorem dX2_visitorAt_4 : decode cX2_visitorAt 4 = .ok (.iload_n 1, 1) := by decide +kernel
theorem dX2_visitorAt_5 : decode cX2_visitorAt 5 = .ok (.aload_n 0, 1) := by decide +kernel
theorem dX2_visitorAt_6 : decode cX2_visitorAt 6 = .ok (.getfield 22, 3) := by decide +kernel
theorem dX2_visitorAt_9 : decode cX2_visitorAt 9 = .ok (.if_icmp .ge 12, 3) := by decide +kernel
theorem dX2_visitorAt_12 : decode cX2_visitorAt 12 = .ok (.aload_n 0, 1) := by decide +kernel
theorem dX2_visitorAt_13 : decode cX2_visitorAt 13 = .ok (.getfield 9, 3) := by decide +kernel
theorem dX2_visitorAt_16 : decode cX2_visitorAt 16 = .ok (.iload_n 1, 1) := by decide +kernel
theorem dX2_visitorAt_17 : decode cX2_visitorAt 17 = .ok (.baload, 1) := by decide +kernel
theorem dX2_visitorAt_18 : decode cX2_visitorAt 18 = .ok (.goto 4, 3) := by decide +kernel
theorem dX2_visitorAt_21 : decode cX2_visitorAt 21 = .ok (.iconst 0, 1) := by decide +kernel
theorem dX2_visitorAt_22 : decode cX2_visitorAt 22 = .ok (.ireturn, 1) := by decide +kernel
set_option maxRecDepth 20000 in
theorem ggX2_expand_X2_isDigit : GoodIn wsX2_expand wsX2_isDigit := goodIn_r _ [6] (by decide +kernel) (by decide +kernel)
set_option maxRecDepth 20000 in
theorem gX2_expand_X2_isDigit : GoodIn wsX2_expand (va_wsS RX2 33 yX2_isDigit wsX2_isDigit) := goodIn_app (goodIn_of _ (by decide +kernel)) ggX2_expand_X2_isDigit
set_option maxRecDepth 20000 in
theorem ggX2_expand_X2_openBracket : GoodIn wsX2_expand wsX2_openBracket := goodIn_r _ [10, 2, 11, 1, 12, 33, 34, 35, 36, 37] (by decide +kernel) (by decide +kernel)
set_option maxRecDepth 20000 in
theorem gX2_expand_X2_openBracket : GoodIn wsX2_expand (wsV RX2 36 RX2 yX2_openBracket wsX2_openBracket) := goodIn_app (goodIn_of _ (by decide +kernel)) ggX2_expand_X2_openBracket
set_option maxRecDepth 20000 in
theorem ggX2_expand_X2_closeBracket : GoodIn wsX2_expand wsX2_closeBracket := goodIn_r _ [16, 2, 11, 12, 17, 18, 19, 5, 20, 1, 21, 22, 23, 24, 25, 33, 34, 35, 36, 37] (by decide +kernel) (by decide +kernel)
set_option maxRecDepth 20000 in
theorem gX2_expand_X2_closeBracket : GoodIn wsX2_expand (wsV RX2 40 RX2 yX2_closeBracket wsX2_closeBracket) := goodIn_app (goodIn_of _ (by decide +kernel)) ggX2_expand_X2_closeBracket
set_option maxRecDepth 20000 in
theorem ggX2_expand_X2_append : GoodIn wsX2_expand wsX2_append := goodIn_r _ [29, 1, 21, 30, 31, 5, 32, 33, 34, 35, 36, 37] (by decide +kernel) (by decide +kernel)
set_option maxRecDepth 20000 in
theorem gX2_expand_X2_append : GoodIn wsX2_expand (wsV RX2 44 RX2 yX2_append wsX2_append) := goodIn_app (goodIn_of _ (by decide +kernel)) ggX2_expand_X2_append
set_option maxRecDepth 20000 in
theorem ggX2_expand_X2_repeat : GoodIn wsX2_expand wsX2_repeat := goodIn_r _ [20, 1, 21, 22, 23, 24, 25, 33, 34, 35, 36, 37] (by decide +kernel) (by decide +kernel)
set_option maxRecDepth 20000 in
theorem gX2_expand_X2_repeat : GoodIn wsX2_expand (wsV RX2 47 RX2 yX2_repeat wsX2_repeat) := goodIn_app (goodIn_of _ (by decide +kernel)) ggX2_expand_X2_repeat
theorem dX2_expand_0 : decode cX2_expand 0 = .ok (.aload_n 0, 1) := by decide +kernel
theorem dX2_expand_1 : decode cX2_expand 1 = .ok (.iconst 0, 1) := by decide +kernel
theorem dX2_expand_2 : decode cX2_expand 2 = .ok (.putfield 22, 3) := by decide +kernel
theorem dX2_expand_5 : decode cX2_expand 5 = .ok (.aload_n 0, 1) := by decide +kernel
theorem dX2_expand_6 : decode cX2_expand 6 = .ok (.iconst 0, 1) := by decide +kernel
theorem dX2_expand_7 : decode cX2_expand 7 = .ok (.putfield 26, 3) := by decide +kernel
theorem dX2_expand_10 : decode cX2_expand 10 = .ok (.iconst 1, 1) := by decide +kernel
theorem dX2_expand_11 : decode cX2_expand 11 = .ok (.istore_n 3, 1) := by decide +kernel
theorem dX2_expand_12 : decode cX2_expand 12 = .ok (.iconst 0, 1) := by decide +kernel
theorem dX2_expand_13 : decode cX2_expand 13 = .ok (.istore 4, 2) := by decide +kernel
theorem dX2_expand_15 : decode cX2_expand 15 = .ok (.iload 4, 2) := by decide +kernel
theorem dX2_expand_17 : decode cX2_expand 17 = .ok (.iload_n 2, 1) := by decide +kernel
theorem dX2_expand_18 : decode cX2_expand 18 = .ok (.if_icmp .ge 115, 3) := by decide +kernel
theorem dX2_expand_21 : decode cX2_expand 21 = .ok (.iload 4, 2) := by decide +kernel
theorem dX2_expand_23 : decode cX2_expand 23 = .ok (.aload_n 1, 1) := by decide +kernel
theorem dX2_expand_24 : decode cX2_expand 24 = .ok (.arraylength, 1) := by decide +kernel
theorem dX2_expand_25 : decode cX2_expand 25 = .ok (.if_icmp .ge 108, 3) := by decide +kernel
theorem dX2_expand_28 : decode cX2_expand 28 = .ok (.aload_n 1, 1) := by decide +kernel
theorem dX2_expand_29 : decode cX2_expand 29 = .ok (.iload 4, 2) := by decide +kernel
theorem dX2_expand_31 : decode cX2_expand 31 = .ok (.caload, 1) := by decide +kernel
theorem dX2_expand_32 : decode cX2_expand 32 = .ok (.istore 5, 2) := by decide +kernel
theorem dX2_expand_34 : decode cX2_expand 34 = .ok (.iconst 1, 1) := by decide +kernel
theorem dX2_expand_35 : decode cX2_expand 35 = .ok (.istore 6, 2) := by decide +kernel
theorem dX2_expand_37 : decode cX2_expand 37 = .ok (.iload 5, 2) := by decide +kernel
theorem dX2_expand_39 : decode cX2_expand 39 = .ok (.invokestatic 33, 3) := by decide +kernel
theorem dX2_expand_42 : decode cX2_expand 42 = .ok (.ifCond .eq 12, 3) := by decide +kernel
theorem dX2_expand_45 : decode cX2_expand 45 = .ok (.iload 5, 2) := by decide +kernel
theorem dX2_expand_47 : decode cX2_expand 47 = .ok (.bipush 48, 2) := by decide +kernel
theorem dX2_expand_49 : decode cX2_expand 49 = .ok (.isub, 1) := by decide +kernel
theorem dX2_expand_50 : decode cX2_expand 50 = .ok (.istore_n 3, 1) := by decide +kernel
