theorem dL_draw_66 : decode cL_draw 66 = .ok (.iconst 0, 1) := by decide +kernel
theorem dL_draw_67 : decode cL_draw 67 = .ok (.istore 7, 2) := by decide +kernel
theorem dL_draw_69 : decode cL_draw 69 = .ok (.iload 7, 2) := by decide +kernel
theorem dL_draw_71 : decode cL_draw 71 = .ok (.bipush 6, 2) := by decide +kernel
theorem dL_draw_73 : decode cL_draw 73 = .ok (.if_icmp .ge 34, 3) := by decide +kernel
theorem dL_draw_76 : decode cL_draw 76 = .ok (.iload 5, 2) := by decide +kernel
theorem dL_draw_78 : decode cL_draw 78 = .ok (.iload_n 1, 1) := by decide +kernel
theorem dL_draw_79 : decode cL_draw 79 = .ok (.iload 7, 2) := by decide +kernel
theorem dL_draw_81 : decode cL_draw 81 = .ok (.ishr, 1) := by decide +kernel
theorem dL_draw_82 : decode cL_draw 82 = .ok (.iconst 1, 1) := by decide +kernel
theorem dL_draw_83 : decode cL_draw 83 = .ok (.iand, 1) := by decide +kernel
theorem dL_draw_84 : decode cL_draw 84 = .ok (.ifCond .ne 13, 3) := by decide +kernel
theorem dL_draw_87 : decode cL_draw 87 = .ok (.aload_n 0, 1) := by decide +kernel
theorem dL_draw_88 : decode cL_draw 88 = .ok (.iload 7, 2) := by decide +kernel
theorem dL_draw_90 : decode cL_draw 90 = .ok (.iconst 1, 1) := by decide +kernel
theorem dL_draw_91 : decode cL_draw 91 = .ok (.invokevirtual 19, 3) := by decide +kernel
theorem dL_draw_94 : decode cL_draw 94 = .ok (.goto 4, 3) := by decide +kernel
theorem dL_draw_97 : decode cL_draw 97 = .ok (.iconst 0, 1) := by decide +kernel
theorem dL_draw_98 : decode cL_draw 98 = .ok (.isub, 1) := by decide +kernel
theorem dL_draw_99 : decode cL_draw 99 = .ok (.istore 5, 2) := by decide +kernel
theorem dL_draw_101 : decode cL_draw 101 = .ok (.iinc 7 1, 3) := by decide +kernel
theorem dL_draw_104 : decode cL_draw 104 = .ok (.goto (-35), 3) := by decide +kernel
theorem dL_draw_107 : decode cL_draw 107 = .ok (.iload 6, 2) := by decide +kernel
theorem dL_draw_109 : decode cL_draw 109 = .ok (.ifCond .lt 38, 3) := by decide +kernel
theorem dL_draw_112 : decode cL_draw 112 = .ok (.aload_n 0, 1) := by decide +kernel
theorem dL_draw_113 : decode cL_draw 113 = .ok (.bipush 7, 2) := by decide +kernel
theorem dL_draw_115 : decode cL_draw 115 = .ok (.invokevirtual 13, 3) := by decide +kernel
theorem dL_draw_118 : decode cL_draw 118 = .ok (.iload_n 3, 1) := by decide +kernel
theorem dL_draw_119 : decode cL_draw 119 = .ok (.iload 6, 2) := by decide +kernel
theorem dL_draw_121 : decode cL_draw 121 = .ok (.iadd, 1) := by decide +kernel
theorem dL_draw_122 : decode cL_draw 122 = .ok (.if_icmp .ne 25, 3) := by decide +kernel
theorem dL_draw_125 : decode cL_draw 125 = .ok (.aload_n 0, 1) := by decide +kernel
theorem dL_draw_126 : decode cL_draw 126 = .ok (.iconst 5, 1) := by decide +kernel
theorem dL_draw_127 : decode cL_draw 127 = .ok (.invokevirtual 13, 3) := by decide +kernel
theorem dL_draw_130 : decode cL_draw 130 = .ok (.iload 4, 2) := by decide +kernel
theorem dL_draw_132 : decode cL_draw 132 = .ok (.iload_n 2, 1) := by decide +kernel
theorem dL_draw_133 : decode cL_draw 133 = .ok (.iadd, 1) := by decide +kernel
theorem dL_draw_134 : decode cL_draw 134 = .ok (.if_icmp .ne 13, 3) := by decide +kernel
theorem dL_draw_137 : decode cL_draw 137 = .ok (.iload 5, 2) := by decide +kernel
theorem dL_draw_139 : decode cL_draw 139 = .ok (.ifCond .ne 8, 3) := by decide +kernel
theorem dL_draw_142 : decode cL_draw 142 = .ok (.iload 6, 2) := by decide +kernel
theorem dL_draw_144 : decode cL_draw 144 = .ok (.goto 5, 3) := by decide +kernel
theorem dL_draw_147 : decode cL_draw 147 = .ok (.bipush (-9), 2) := by decide +kernel
theorem dL_draw_149 : decode cL_draw 149 = .ok (.ireturn, 1) := by decide +kernel
theorem dL_finish_0 : decode cL_finish 0 = .ok (.aload_n 0, 1) := by decide +kernel
theorem dL_finish_1 : decode cL_finish 1 = .ok (.invokevirtual 50, 3) := by decide +kernel
theorem dL_finish_4 : decode cL_finish 4 = .ok (.istore_n 1, 1) := by decide +kernel
theorem dL_finish_5 : decode cL_finish 5 = .ok (.aload_n 0, 1) := by decide +kernel
theorem dL_finish_6 : decode cL_finish 6 = .ok (.iconst 5, 1) := by decide +kernel
theorem dL_finish_7 : decode cL_finish 7 = .ok (.invokevirtual 13, 3) := by decide +kernel
theorem dL_finish_10 : decode cL_finish 10 = .ok (.istore_n 2, 1) := by decide +kernel
theorem dL_finish_11 : decode cL_finish 11 = .ok (.aload_n 0, 1) := by decide +kernel
theorem dL_finish_12 : decode cL_finish 12 = .ok (.bipush 7, 2) := by decide +kernel
theorem dL_finish_14 : decode cL_finish 14 = .ok (.invokevirtual 13, 3) := by decide +kernel
theorem dL_finish_17 : decode cL_finish 17 = .ok (.istore_n 3, 1) := by decide +kernel
theorem dL_finish_18 : decode cL_finish 18 = .ok (.aload_n 0, 1) := by decide +kernel
theorem dL_finish_19 : decode cL_finish 19 = .ok (.iconst 3, 1) := by decide +kernel
theorem dL_finish_20 : decode cL_finish 20 = .ok (.invokevirtual 13, 3) := by decide +kernel
theorem dL_finish_23 : decode cL_finish 23 = .ok (.istore 4, 2) := by decide +kernel
theorem dL_finish_25 : decode cL_finish 25 = .ok (.aload_n 0, 1) := by decide +kernel
theorem dL_finish_26 : decode cL_finish 26 = .ok (.invokevirtual 46, 3) := by decide +kernel
theorem dL_finish_29 : decode cL_finish 29 = .ok (.istore 5, 2) := by decide +kernel
theorem dL_finish_31 : decode cL_finish 31 = .ok (.iload 5, 2) := by decide +kernel
theorem dL_finish_33 : decode cL_finish 33 = .ok (.iload 4, 2) := by decide +kernel
theorem dL_finish_35 : decode cL_finish 35 = .ok (.ifCond .ne 8, 3) := by decide +kernel
theorem dL_finish_38 : decode cL_finish 38 = .ok (.bipush (-5), 2) := by decide +kernel
theorem dL_finish_40 : decode cL_finish 40 = .ok (.goto 4, 3) := by decide +kernel
theorem dL_finish_43 : decode cL_finish 43 = .ok (.iload_n 1, 1) := by decide +kernel
theorem dL_finish_44 : decode cL_finish 44 = .ok (.if_icmp .ne 59, 3) := by decide +kernel
theorem dL_finish_47 : decode cL_finish 47 = .ok (.aload_n 0, 1) := by decide +kernel
theorem dL_finish_48 : decode cL_finish 48 = .ok (.iconst 3, 1) := by decide +kernel
theorem dL_finish_49 : decode cL_finish 49 = .ok (.invokevirtual 13, 3) := by decide +kernel
theorem dL_finish_52 : decode cL_finish 52 = .ok (.ifCond .ne 51, 3) := by decide +kernel
theorem dL_finish_55 : decode cL_finish 55 = .ok (.aload_n 0, 1) := by decide +kernel
theorem dL_finish_56 : decode cL_finish 56 = .ok (.iconst 5, 1) := by decide +kernel
theorem dL_finish_57 : decode cL_finish 57 = .ok (.invokevirtual 13, 3) := by decide +kernel
theorem dL_finish_60 : decode cL_finish 60 = .ok (.iload_n 2, 1) := by decide +kernel
theorem dL_finish_61 : decode cL_finish 61 = .ok (.iload_n 1, 1) := by decide +kernel
theorem dL_finish_62 : decode cL_finish 62 = .ok (.iadd, 1) := by decide +kernel
theorem dL_finish_63 : decode cL_finish 63 = .ok (.if_icmp .ne 40, 3) := by decide +kernel
theorem dL_finish_66 : decode cL_finish 66 = .ok (.aload_n 0, 1) := by decide +kernel
theorem dL_finish_67 : decode cL_finish 67 = .ok (.bipush 7, 2) := by decide +kernel
theorem dL_finish_69 : decode cL_finish 69 = .ok (.invokevirtual 13, 3) := by decide +kernel
theorem dL_finish_72 : decode cL_finish 72 = .ok (.iload_n 3, 1) := by decide +kernel
theorem dL_finish_73 : decode cL_finish 73 = .ok (.iload 4, 2) := by decide +kernel
theorem dL_finish_75 : decode cL_finish 75 = .ok (.iadd, 1) := by decide +kernel
theorem dL_finish_76 : decode cL_finish 76 = .ok (.if_icmp .ne 27, 3) := by decide +kernel
theorem dL_finish_79 : decode cL_finish 79 = .ok (.aload_n 0, 1) := by decide +kernel
theorem dL_finish_80 : decode cL_finish 80 = .ok (.iconst 1, 1) := by decide +kernel
theorem dL_finish_81 : decode cL_finish 81 = .ok (.invokevirtual 13, 3) := by decide +kernel
theorem dL_finish_84 : decode cL_finish 84 = .ok (.bipush (-5), 2) := by decide +kernel
theorem dL_finish_86 : decode cL_finish 86 = .ok (.if_icmp .ne 17, 3) := by decide +kernel
theorem dL_finish_89 : decode cL_finish 89 = .ok (.aload_n 0, 1) := by decide +kernel
theorem dL_finish_90 : decode cL_finish 90 = .ok (.iconst 0, 1) := by decide +kernel
theorem dL_finish_91 : decode cL_finish 91 = .ok (.invokevirtual 23, 3) := by decide +kernel
theorem dL_finish_94 : decode cL_finish 94 = .ok (.bipush (-5), 2) := by decide +kernel
theorem dL_finish_96 : decode cL_finish 96 = .ok (.if_icmp .ne 7, 3) := by decide +kernel
theorem dL_finish_99 : decode cL_finish 99 = .ok (.iconst 1, 1) := by decide +kernel
theorem dL_finish_100 : decode cL_finish 100 = .ok (.goto 4, 3) := by decide +kernel
theorem dL_finish_103 : decode cL_finish 103 = .ok (.iconst 0, 1) := by decide +kernel
theorem dL_finish_104 : decode cL_finish 104 = .ok (.istore 6, 2) := by decide +kernel
theorem dL_finish_106 : decode cL_finish 106 = .ok (.iload 6, 2) := by decide +kernel
theorem dL_finish_108 : decode cL_finish 108 = .ok (.ifCond .eq 8, 3) := by decide +kernel
theorem dL_finish_111 : decode cL_finish 111 = .ok (.iload 5, 2) := by decide +kernel
theorem dL_finish_113 : decode cL_finish 113 = .ok (.goto 5, 3) := by decide +kernel
theorem dL_finish_116 : decode cL_finish 116 = .ok (.bipush (-9), 2) := by decide +kernel
theorem dL_finish_118 : decode cL_finish 118 = .ok (.ireturn, 1) := by decide +kernel
theorem dL_act_0 : decode cL_act 0 = .ok (.iload_n 1, 1) := by decide +kernel
theorem dL_act_1 : decode cL_act 1 = .ok (.bipush 16, 2) := by decide +kernel
theorem dL_act_3 : decode cL_act 3 = .ok (.irem, 1) := by decide +kernel
theorem dL_act_4 : decode cL_act 4 = .ok (.istore_n 2, 1) := by decide +kernel
theorem dL_act_5 : decode cL_act 5 = .ok (.iload_n 1, 1) := by decide +kernel
theorem dL_act_6 : decode cL_act 6 = .ok (.bipush 16, 2) := by decide +kernel
theorem dL_act_8 : decode cL_act 8 = .ok (.idiv, 1) := by decide +kernel
theorem dL_act_9 : decode cL_act 9 = .ok (.istore_n 3, 1) := by decide +kernel
theorem dL_act_10 : decode cL_act 10 = .ok (.iload_n 2, 1) := by decide +kernel
theorem dL_act_11 : decode cL_act 11 = .ok (.bipush 8, 2) := by decide +kernel
theorem dL_act_13 : decode cL_act 13 = .ok (.if_icmp .ge 12, 3) := by decide +kernel
theorem dL_act_16 : decode cL_act 16 = .ok (.aload_n 0, 1) := by decide +kernel
theorem dL_act_17 : decode cL_act 17 = .ok (.iload_n 3, 1) := by decide +kernel
theorem dL_act_18 : decode cL_act 18 = .ok (.bipush 6, 2) := by decide +kernel
theorem dL_act_20 : decode cL_act 20 = .ok (.irem, 1) := by decide +kernel
theorem dL_act_21 : decode cL_act 21 = .ok (.invokestatic 77, 3) := by decide +kernel
theorem dL_act_24 : decode cL_act 24 = .ok (.ireturn, 1) := by decide +kernel
theorem dL_act_25 : decode cL_act 25 = .ok (.iload_n 2, 1) := by decide +kernel
theorem dL_act_26 : decode cL_act 26 = .ok (.bipush 11, 2) := by decide +kernel
theorem dL_act_28 : decode cL_act 28 = .ok (.if_icmp .ge 12, 3) := by decide +kernel
theorem dL_act_31 : decode cL_act 31 = .ok (.aload_n 0, 1) := by decide +kernel
theorem dL_act_32 : decode cL_act 32 = .ok (.iload_n 3, 1) := by decide +kernel
theorem dL_act_33 : decode cL_act 33 = .ok (.bipush 6, 2) := by decide +kernel
theorem dL_act_35 : decode cL_act 35 = .ok (.irem, 1) := by decide +kernel
theorem dL_act_36 : decode cL_act 36 = .ok (.invokestatic 80, 3) := by decide +kernel
theorem dL_act_39 : decode cL_act 39 = .ok (.ireturn, 1) := by decide +kernel
theorem dL_act_40 : decode cL_act 40 = .ok (.iload_n 2, 1) := by decide +kernel
theorem dL_act_41 : decode cL_act 41 = .ok (.bipush 13, 2) := by decide +kernel
theorem dL_act_43 : decode cL_act 43 = .ok (.if_icmp .ge 23, 3) := by decide +kernel
theorem dL_act_46 : decode cL_act 46 = .ok (.aload_n 0, 1) := by decide +kernel
theorem dL_act_47 : decode cL_act 47 = .ok (.iconst 1, 1) := by decide +kernel
theorem dL_act_48 : decode cL_act 48 = .ok (.iload_n 3, 1) := by decide +kernel
theorem dL_act_49 : decode cL_act 49 = .ok (.bipush 63, 2) := by decide +kernel
theorem dL_act_51 : decode cL_act 51 = .ok (.irem, 1) := by decide +kernel
theorem dL_act_52 : decode cL_act 52 = .ok (.iadd, 1) := by decide +kernel
theorem dL_act_53 : decode cL_act 53 = .ok (.iconst 1, 1) := by decide +kernel
theorem dL_act_54 : decode cL_act 54 = .ok (.iload_n 3, 1) := by decide +kernel
theorem dL_act_55 : decode cL_act 55 = .ok (.bipush 63, 2) := by decide +kernel
theorem dL_act_57 : decode cL_act 57 = .ok (.idiv, 1) := by decide +kernel
theorem dL_act_58 : decode cL_act 58 = .ok (.bipush 50, 2) := by decide +kernel
theorem dL_act_60 : decode cL_act 60 = .ok (.irem, 1) := by decide +kernel
theorem dL_act_61 : decode cL_act 61 = .ok (.iadd, 1) := by decide +kernel
theorem dL_act_62 : decode cL_act 62 = .ok (.invokestatic 82, 3) := by decide +kernel
theorem dL_act_65 : decode cL_act 65 = .ok (.ireturn, 1) := by decide +kernel
theorem dL_act_66 : decode cL_act 66 = .ok (.iload_n 2, 1) := by decide +kernel
theorem dL_act_67 : decode cL_act 67 = .ok (.bipush 13, 2) := by decide +kernel
theorem dL_act_69 : decode cL_act 69 = .ok (.if_icmp .ne 54, 3) := by decide +kernel
theorem dL_act_72 : decode cL_act 72 = .ok (.aload_n 0, 1) := by decide +kernel
theorem dL_act_73 : decode cL_act 73 = .ok (.bipush 12, 2) := by decide +kernel
theorem dL_act_75 : decode cL_act 75 = .ok (.invokevirtual 13, 3) := by decide +kernel
theorem dL_act_78 : decode cL_act 78 = .ok (.istore 4, 2) := by decide +kernel
theorem dL_act_80 : decode cL_act 80 = .ok (.aload_n 0, 1) := by decide +kernel
theorem dL_act_81 : decode cL_act 81 = .ok (.iload_n 3, 1) := by decide +kernel
theorem dL_act_82 : decode cL_act 82 = .ok (.invokevirtual 43, 3) := by decide +kernel
theorem dL_act_85 : decode cL_act 85 = .ok (.istore 5, 2) := by decide +kernel
theorem dL_act_87 : decode cL_act 87 = .ok (.iload 5, 2) := by decide +kernel
theorem dL_act_89 : decode cL_act 89 = .ok (.iload 4, 2) := by decide +kernel
theorem dL_act_91 : decode cL_act 91 = .ok (.iload_n 3, 1) := by decide +kernel
theorem dL_act_92 : decode cL_act 92 = .ok (.if_icmp .ne 8, 3) := by decide +kernel
theorem dL_act_95 : decode cL_act 95 = .ok (.bipush (-5), 2) := by decide +kernel
theorem dL_act_97 : decode cL_act 97 = .ok (.goto 5, 3) := by decide +kernel
theorem dL_act_100 : decode cL_act 100 = .ok (.iload 4, 2) := by decide +kernel
theorem dL_act_102 : decode cL_act 102 = .ok (.if_icmp .ne 18, 3) := by decide +kernel
theorem dL_act_105 : decode cL_act 105 = .ok (.aload_n 0, 1) := by decide +kernel
theorem dL_act_106 : decode cL_act 106 = .ok (.bipush 12, 2) := by decide +kernel
theorem dL_act_108 : decode cL_act 108 = .ok (.invokevirtual 13, 3) := by decide +kernel
theorem dL_act_111 : decode cL_act 111 = .ok (.iload_n 3, 1) := by decide +kernel
theorem dL_act_112 : decode cL_act 112 = .ok (.if_icmp .ne 8, 3) := by decide +kernel
theorem dL_act_115 : decode cL_act 115 = .ok (.iload 5, 2) := by decide +kernel
theorem dL_act_117 : decode cL_act 117 = .ok (.goto 5, 3) := by decide +kernel
theorem dL_act_120 : decode cL_act 120 = .ok (.bipush (-9), 2) := by decide +kernel
theorem dL_act_122 : decode cL_act 122 = .ok (.ireturn, 1) := by decide +kernel
theorem dL_act_123 : decode cL_act 123 = .ok (.iload_n 2, 1) := by decide +kernel
theorem dL_act_124 : decode cL_act 124 = .ok (.bipush 14, 2) := by decide +kernel
theorem dL_act_126 : decode cL_act 126 = .ok (.if_icmp .ne 8, 3) := by decide +kernel
theorem dL_act_129 : decode cL_act 129 = .ok (.aload_n 0, 1) := by decide +kernel
theorem dL_act_130 : decode cL_act 130 = .ok (.invokestatic 85, 3) := by decide +kernel
theorem dL_act_133 : decode cL_act 133 = .ok (.ireturn, 1) := by decide +kernel
theorem dL_act_134 : decode cL_act 134 = .ok (.aload_n 0, 1) := by decide +kernel
theorem dL_act_135 : decode cL_act 135 = .ok (.iconst 0, 1) := by decide +kernel
theorem dL_act_136 : decode cL_act 136 = .ok (.invokevirtual 13, 3) := by decide +kernel
theorem dL_act_139 : decode cL_act 139 = .ok (.istore 4, 2) := by decide +kernel
theorem dL_act_141 : decode cL_act 141 = .ok (.aload_n 0, 1) := by decide +kernel
theorem dL_act_142 : decode cL_act 142 = .ok (.iconst 3, 1) := by decide +kernel
theorem dL_act_143 : decode cL_act 143 = .ok (.invokevirtual 13, 3) := by decide +kernel
theorem dL_act_146 : decode cL_act 146 = .ok (.istore 5, 2) := by decide +kernel
theorem dL_act_148 : decode cL_act 148 = .ok (.aload_n 0, 1) := by decide +kernel
theorem dL_act_149 : decode cL_act 149 = .ok (.iload_n 3, 1) := by decide +kernel
theorem dL_act_150 : decode cL_act 150 = .ok (.iconst 4, 1) := by decide +kernel
theorem dL_act_151 : decode cL_act 151 = .ok (.irem, 1) := by decide +kernel
theorem dL_act_152 : decode cL_act 152 = .ok (.invokevirtual 31, 3) := by decide +kernel
theorem dL_act_155 : decode cL_act 155 = .ok (.istore 6, 2) := by decide +kernel
theorem dL_act_157 : decode cL_act 157 = .ok (.iload 6, 2) := by decide +kernel
theorem dL_act_159 : decode cL_act 159 = .ok (.iload 5, 2) := by decide +kernel
theorem dL_act_161 : decode cL_act 161 = .ok (.ifCond .le 8, 3) := by decide +kernel
theorem dL_act_164 : decode cL_act 164 = .ok (.bipush (-4), 2) := by decide +kernel
theorem dL_act_166 : decode cL_act 166 = .ok (.goto 5, 3) := by decide +kernel
theorem dL_act_169 : decode cL_act 169 = .ok (.iload 4, 2) := by decide +kernel
theorem dL_act_171 : decode cL_act 171 = .ok (.if_icmp .ne 29, 3) := by decide +kernel
theorem dL_act_174 : decode cL_act 174 = .ok (.aload_n 0, 1) := by decide +kernel
theorem dL_act_175 : decode cL_act 175 = .ok (.iconst 0, 1) := by decide +kernel
theorem dL_act_176 : decode cL_act 176 = .ok (.invokevirtual 13, 3) := by decide +kernel
theorem dL_act_179 : decode cL_act 179 = .ok (.iload 5, 2) := by decide +kernel
theorem dL_act_181 : decode cL_act 181 = .ok (.ifCond .le 8, 3) := by decide +kernel
theorem dL_act_184 : decode cL_act 184 = .ok (.iload 4, 2) := by decide +kernel
theorem dL_act_186 : decode cL_act 186 = .ok (.goto 6, 3) := by decide +kernel
theorem dL_act_189 : decode cL_act 189 = .ok (.iload_n 3, 1) := by decide +kernel
theorem dL_act_190 : decode cL_act 190 = .ok (.iconst 4, 1) := by decide +kernel
theorem dL_act_191 : decode cL_act 191 = .ok (.irem, 1) := by decide +kernel
theorem dL_act_192 : decode cL_act 192 = .ok (.if_icmp .ne 8, 3) := by decide +kernel
theorem dL_act_195 : decode cL_act 195 = .ok (.iload 6, 2) := by decide +kernel
theorem dL_act_197 : decode cL_act 197 = .ok (.goto 5, 3) := by decide +kernel
theorem dL_act_200 : decode cL_act 200 = .ok (.bipush (-9), 2) := by decide +kernel
theorem dL_act_202 : decode cL_act 202 = .ok (.ireturn, 1) := by decide +kernel
theorem dL_law_0 : decode cL_law 0 = .ok (.new 14, 3) := by decide +kernel
theorem dL_law_3 : decode cL_law 3 = .ok (.dup, 1) := by decide +kernel
theorem dL_law_4 : decode cL_law 4 = .ok (.invokespecial 88, 3) := by decide +kernel
theorem dL_law_7 : decode cL_law 7 = .ok (.astore_n 1, 1) := by decide +kernel
theorem dL_law_8 : decode cL_law 8 = .ok (.aload_n 1, 1) := by decide +kernel
theorem dL_law_9 : decode cL_law 9 = .ok (.invokevirtual 89, 3) := by decide +kernel
theorem dL_law_12 : decode cL_law 12 = .ok (.bipush (-5), 2) := by decide +kernel
theorem dL_law_14 : decode cL_law 14 = .ok (.if_icmp .ne 67, 3) := by decide +kernel
theorem dL_law_17 : decode cL_law 17 = .ok (.aload_n 1, 1) := by decide +kernel
theorem dL_law_18 : decode cL_law 18 = .ok (.invokevirtual 92, 3) := by decide +kernel
theorem dL_law_21 : decode cL_law 21 = .ok (.bipush (-5), 2) := by decide +kernel
theorem dL_law_23 : decode cL_law 23 = .ok (.if_icmp .ne 58, 3) := by decide +kernel
theorem dL_law_26 : decode cL_law 26 = .ok (.aload_n 1, 1) := by decide +kernel
theorem dL_law_27 : decode cL_law 27 = .ok (.bipush 12, 2) := by decide +kernel
theorem dL_law_29 : decode cL_law 29 = .ok (.invokevirtual 13, 3) := by decide +kernel
theorem dL_law_32 : decode cL_law 32 = .ok (.iconst 1, 1) := by decide +kernel
theorem dL_law_33 : decode cL_law 33 = .ok (.if_icmp .ne 48, 3) := by decide +kernel
theorem dL_law_36 : decode cL_law 36 = .ok (.aload_n 1, 1) := by decide +kernel
theorem dL_law_37 : decode cL_law 37 = .ok (.iconst 0, 1) := by decide +kernel
theorem dL_law_38 : decode cL_law 38 = .ok (.invokevirtual 13, 3) := by decide +kernel
theorem dL_law_41 : decode cL_law 41 = .ok (.ifCond .ne 40, 3) := by decide +kernel
theorem dL_law_44 : decode cL_law 44 = .ok (.aload_n 1, 1) := by decide +kernel
theorem dL_law_45 : decode cL_law 45 = .ok (.iconst 2, 1) := by decide +kernel
theorem dL_law_46 : decode cL_law 46 = .ok (.invokevirtual 13, 3) := by decide +kernel
theorem dL_law_49 : decode cL_law 49 = .ok (.bipush (-5), 2) := by decide +kernel
theorem dL_law_51 : decode cL_law 51 = .ok (.if_icmp .ne 30, 3) := by decide +kernel
theorem dL_law_54 : decode cL_law 54 = .ok (.aload_n 1, 1) := by decide +kernel
theorem dL_law_55 : decode cL_law 55 = .ok (.iconst 0, 1) := by decide +kernel
theorem dL_law_56 : decode cL_law 56 = .ok (.invokestatic 95, 3) := by decide +kernel
theorem dL_law_59 : decode cL_law 59 = .ok (.ifCond .eq 22, 3) := by decide +kernel
theorem dL_law_62 : decode cL_law 62 = .ok (.aload_n 1, 1) := by decide +kernel
theorem dL_law_63 : decode cL_law 63 = .ok (.iconst 1, 1) := by decide +kernel
theorem dL_law_64 : decode cL_law 64 = .ok (.invokestatic 95, 3) := by decide +kernel
theorem dL_law_67 : decode cL_law 67 = .ok (.ifCond .eq 14, 3) := by decide +kernel
theorem dL_law_70 : decode cL_law 70 = .ok (.aload_n 1, 1) := by decide +kernel
theorem dL_law_71 : decode cL_law 71 = .ok (.invokevirtual 98, 3) := by decide +kernel
theorem dL_law_74 : decode cL_law 74 = .ok (.ifCond .ne 7, 3) := by decide +kernel
theorem dL_law_77 : decode cL_law 77 = .ok (.iconst 1, 1) := by decide +kernel
theorem dL_law_78 : decode cL_law 78 = .ok (.goto 4, 3) := by decide +kernel
theorem dL_law_81 : decode cL_law 81 = .ok (.iconst 0, 1) := by decide +kernel
theorem dL_law_82 : decode cL_law 82 = .ok (.istore_n 2, 1) := by decide +kernel
theorem dL_law_83 : decode cL_law 83 = .ok (.aload_n 1, 1) := by decide +kernel
theorem dL_law_84 : decode cL_law 84 = .ok (.invokestatic 69, 3) := by decide +kernel
theorem dL_law_87 : decode cL_law 87 = .ok (.lstore_n 3, 1) := by decide +kernel
theorem dL_law_88 : decode cL_law 88 = .ok (.iconst 0, 1) := by decide +kernel
theorem dL_law_89 : decode cL_law 89 = .ok (.istore 5, 2) := by decide +kernel
theorem dL_law_91 : decode cL_law 91 = .ok (.iconst 0, 1) := by decide +kernel
theorem dL_law_92 : decode cL_law 92 = .ok (.istore 6, 2) := by decide +kernel
theorem dL_law_94 : decode cL_law 94 = .ok (.iload 6, 2) := by decide +kernel
theorem dL_law_96 : decode cL_law 96 = .ok (.bipush 64, 2) := by decide +kernel
theorem dL_law_98 : decode cL_law 98 = .ok (.if_icmp .ge 275, 3) := by decide +kernel
theorem dL_law_101 : decode cL_law 101 = .ok (.iload_n 2, 1) := by decide +kernel
theorem dL_law_102 : decode cL_law 102 = .ok (.ifCond .eq 271, 3) := by decide +kernel
theorem dL_law_105 : decode cL_law 105 = .ok (.aload_n 0, 1) := by decide +kernel
theorem dL_law_106 : decode cL_law 106 = .ok (.iload 6, 2) := by decide +kernel
theorem dL_law_108 : decode cL_law 108 = .ok (.invokestatic 101, 3) := by decide +kernel
theorem dL_law_111 : decode cL_law 111 = .ok (.istore 7, 2) := by decide +kernel
theorem dL_law_113 : decode cL_law 113 = .ok (.aload_n 1, 1) := by decide +kernel
theorem dL_law_114 : decode cL_law 114 = .ok (.invokestatic 69, 3) := by decide +kernel
theorem dL_law_117 : decode cL_law 117 = .ok (.lstore 8, 2) := by decide +kernel
theorem dL_law_119 : decode cL_law 119 = .ok (.aload_n 1, 1) := by decide +kernel
theorem dL_law_120 : decode cL_law 120 = .ok (.bipush 13, 2) := by decide +kernel
theorem dL_law_122 : decode cL_law 122 = .ok (.invokevirtual 13, 3) := by decide +kernel
theorem dL_law_125 : decode cL_law 125 = .ok (.istore 10, 2) := by decide +kernel
theorem dL_law_127 : decode cL_law 127 = .ok (.aload_n 1, 1) := by decide +kernel
theorem dL_law_128 : decode cL_law 128 = .ok (.iload 7, 2) := by decide +kernel
theorem dL_law_130 : decode cL_law 130 = .ok (.invokestatic 105, 3) := by decide +kernel
theorem dL_law_133 : decode cL_law 133 = .ok (.istore 11, 2) := by decide +kernel
theorem dL_law_135 : decode cL_law 135 = .ok (.aload_n 1, 1) := by decide +kernel
theorem dL_law_136 : decode cL_law 136 = .ok (.bipush 13, 2) := by decide +kernel
theorem dL_law_138 : decode cL_law 138 = .ok (.invokevirtual 13, 3) := by decide +kernel
theorem dL_law_141 : decode cL_law 141 = .ok (.istore 12, 2) := by decide +kernel
theorem dL_law_143 : decode cL_law 143 = .ok (.iload 11, 2) := by decide +kernel
theorem dL_law_145 : decode cL_law 145 = .ok (.bipush (-9), 2) := by decide +kernel
theorem dL_law_147 : decode cL_law 147 = .ok (.if_icmp .le 80, 3) := by decide +kernel
theorem dL_law_150 : decode cL_law 150 = .ok (.iload 11, 2) := by decide +kernel
theorem dL_law_152 : decode cL_law 152 = .ok (.ifCond .ge 23, 3) := by decide +kernel
theorem dL_law_155 : decode cL_law 155 = .ok (.iload 12, 2) := by decide +kernel
theorem dL_law_157 : decode cL_law 157 = .ok (.iload 10, 2) := by decide +kernel
theorem dL_law_159 : decode cL_law 159 = .ok (.if_icmp .ne 68, 3) := by decide +kernel
theorem dL_law_162 : decode cL_law 162 = .ok (.aload_n 1, 1) := by decide +kernel
theorem dL_law_163 : decode cL_law 163 = .ok (.invokestatic 69, 3) := by decide +kernel
theorem dL_law_166 : decode cL_law 166 = .ok (.lload 8, 2) := by decide +kernel
theorem dL_law_168 : decode cL_law 168 = .ok (.lcmp, 1) := by decide +kernel
theorem dL_law_169 : decode cL_law 169 = .ok (.ifCond .ne 58, 3) := by decide +kernel
theorem dL_law_172 : decode cL_law 172 = .ok (.goto 22, 3) := by decide +kernel
theorem dL_law_175 : decode cL_law 175 = .ok (.iload 12, 2) := by decide +kernel
theorem dL_law_177 : decode cL_law 177 = .ok (.iload 10, 2) := by decide +kernel
theorem dL_law_179 : decode cL_law 179 = .ok (.iconst 4, 1) := by decide +kernel
theorem dL_law_180 : decode cL_law 180 = .ok (.if_icmp .ge 10, 3) := by decide +kernel
theorem dL_law_183 : decode cL_law 183 = .ok (.iload 10, 2) := by decide +kernel
theorem dL_law_185 : decode cL_law 185 = .ok (.iconst 1, 1) := by decide +kernel
theorem dL_law_186 : decode cL_law 186 = .ok (.iadd, 1) := by decide +kernel
theorem dL_law_187 : decode cL_law 187 = .ok (.goto 4, 3) := by decide +kernel
theorem dL_law_190 : decode cL_law 190 = .ok (.iconst 4, 1) := by decide +kernel
theorem dL_law_191 : decode cL_law 191 = .ok (.if_icmp .ne 36, 3) := by decide +kernel
theorem dL_law_194 : decode cL_law 194 = .ok (.aload_n 1, 1) := by decide +kernel
theorem dL_law_195 : decode cL_law 195 = .ok (.invokestatic 108, 3) := by decide +kernel
theorem dL_law_198 : decode cL_law 198 = .ok (.ifCond .eq 29, 3) := by decide +kernel
theorem dL_law_201 : decode cL_law 201 = .ok (.iload 6, 2) := by decide +kernel
theorem dL_law_203 : decode cL_law 203 = .ok (.bipush 7, 2) := by decide +kernel
theorem dL_law_205 : decode cL_law 205 = .ok (.irem, 1) := by decide +kernel
theorem dL_law_206 : decode cL_law 206 = .ok (.bipush 6, 2) := by decide +kernel
theorem dL_law_208 : decode cL_law 208 = .ok (.if_icmp .ne 15, 3) := by decide +kernel
theorem dL_law_211 : decode cL_law 211 = .ok (.aload_n 1, 1) := by decide +kernel
theorem dL_law_212 : decode cL_law 212 = .ok (.iload 7, 2) := by decide +kernel
theorem dL_law_214 : decode cL_law 214 = .ok (.bipush 7, 2) := by decide +kernel
theorem dL_law_216 : decode cL_law 216 = .ok (.idiv, 1) := by decide +kernel
theorem dL_law_217 : decode cL_law 217 = .ok (.invokestatic 95, 3) := by decide +kernel
theorem dL_law_220 : decode cL_law 220 = .ok (.ifCond .eq 7, 3) := by decide +kernel
theorem dL_law_223 : decode cL_law 223 = .ok (.iconst 1, 1) := by decide +kernel
theorem dL_law_224 : decode cL_law 224 = .ok (.goto 4, 3) := by decide +kernel
theorem dL_law_227 : decode cL_law 227 = .ok (.iconst 0, 1) := by decide +kernel
theorem dL_law_228 : decode cL_law 228 = .ok (.istore_n 2, 1) := by decide +kernel
theorem dL_law_229 : decode cL_law 229 = .ok (.iload_n 2, 1) := by decide +kernel
theorem dL_law_230 : decode cL_law 230 = .ok (.ifCond .eq 53, 3) := by decide +kernel
theorem dL_law_233 : decode cL_law 233 = .ok (.iload 11, 2) := by decide +kernel
theorem dL_law_235 : decode cL_law 235 = .ok (.ifCond .lt 48, 3) := by decide +kernel
theorem dL_law_238 : decode cL_law 238 = .ok (.iload 7, 2) := by decide +kernel
theorem dL_law_240 : decode cL_law 240 = .ok (.bipush 17, 2) := by decide +kernel
theorem dL_law_242 : decode cL_law 242 = .ok (.idiv, 1) := by decide +kernel
theorem dL_law_243 : decode cL_law 243 = .ok (.iconst 3, 1) := by decide +kernel
theorem dL_law_244 : decode cL_law 244 = .ok (.irem, 1) := by decide +kernel
theorem dL_law_245 : decode cL_law 245 = .ok (.ifCond .ne 38, 3) := by decide +kernel
theorem dL_law_248 : decode cL_law 248 = .ok (.aload_n 1, 1) := by decide +kernel
theorem dL_law_249 : decode cL_law 249 = .ok (.invokevirtual 89, 3) := by decide +kernel
theorem dL_law_252 : decode cL_law 252 = .ok (.iload 10, 2) := by decide +kernel
theorem dL_law_254 : decode cL_law 254 = .ok (.iconst 4, 1) := by decide +kernel
theorem dL_law_255 : decode cL_law 255 = .ok (.if_icmp .ge 8, 3) := by decide +kernel
theorem dL_law_258 : decode cL_law 258 = .ok (.iload 10, 2) := by decide +kernel
theorem dL_law_260 : decode cL_law 260 = .ok (.goto 4, 3) := by decide +kernel
theorem dL_law_263 : decode cL_law 263 = .ok (.iconst 3, 1) := by decide +kernel
theorem dL_law_264 : decode cL_law 264 = .ok (.if_icmp .ne 17, 3) := by decide +kernel
theorem dL_law_267 : decode cL_law 267 = .ok (.aload_n 1, 1) := by decide +kernel
theorem dL_law_268 : decode cL_law 268 = .ok (.invokestatic 69, 3) := by decide +kernel
theorem dL_law_271 : decode cL_law 271 = .ok (.lload 8, 2) := by decide +kernel
theorem dL_law_273 : decode cL_law 273 = .ok (.lcmp, 1) := by decide +kernel
theorem dL_law_274 : decode cL_law 274 = .ok (.ifCond .ne 7, 3) := by decide +kernel
theorem dL_law_277 : decode cL_law 277 = .ok (.iconst 1, 1) := by decide +kernel
theorem dL_law_278 : decode cL_law 278 = .ok (.goto 4, 3) := by decide +kernel
theorem dL_law_281 : decode cL_law 281 = .ok (.iconst 0, 1) := by decide +kernel
theorem dL_law_282 : decode cL_law 282 = .ok (.istore_n 2, 1) := by decide +kernel
theorem dL_law_283 : decode cL_law 283 = .ok (.iload_n 2, 1) := by decide +kernel
theorem dL_law_284 : decode cL_law 284 = .ok (.ifCond .eq 83, 3) := by decide +kernel
theorem dL_law_287 : decode cL_law 287 = .ok (.iload 6, 2) := by decide +kernel
theorem dL_law_289 : decode cL_law 289 = .ok (.bipush 16, 2) := by decide +kernel
theorem dL_law_291 : decode cL_law 291 = .ok (.irem, 1) := by decide +kernel
theorem dL_law_292 : decode cL_law 292 = .ok (.bipush 15, 2) := by decide +kernel
theorem dL_law_294 : decode cL_law 294 = .ok (.if_icmp .ne 73, 3) := by decide +kernel
theorem dL_law_297 : decode cL_law 297 = .ok (.aload_n 1, 1) := by decide +kernel
theorem dL_law_298 : decode cL_law 298 = .ok (.invokestatic 69, 3) := by decide +kernel
theorem dL_law_301 : decode cL_law 301 = .ok (.lstore 13, 2) := by decide +kernel
theorem dL_law_303 : decode cL_law 303 = .ok (.aload_n 1, 1) := by decide +kernel
theorem dL_law_304 : decode cL_law 304 = .ok (.iconst 3, 1) := by decide +kernel
theorem dL_law_305 : decode cL_law 305 = .ok (.invokevirtual 13, 3) := by decide +kernel
theorem dL_law_308 : decode cL_law 308 = .ok (.istore 15, 2) := by decide +kernel
theorem dL_law_310 : decode cL_law 310 = .ok (.aload_n 1, 1) := by decide +kernel
theorem dL_law_311 : decode cL_law 311 = .ok (.invokevirtual 92, 3) := by decide +kernel
theorem dL_law_314 : decode cL_law 314 = .ok (.iload 5, 2) := by decide +kernel
theorem dL_law_316 : decode cL_law 316 = .ok (.if_icmp .ne 42, 3) := by decide +kernel
theorem dL_law_319 : decode cL_law 319 = .ok (.aload_n 1, 1) := by decide +kernel
theorem dL_law_320 : decode cL_law 320 = .ok (.invokestatic 69, 3) := by decide +kernel
theorem dL_law_323 : decode cL_law 323 = .ok (.lload_n 3, 1) := by decide +kernel
theorem dL_law_324 : decode cL_law 324 = .ok (.lcmp, 1) := by decide +kernel
theorem dL_law_325 : decode cL_law 325 = .ok (.ifCond .ne 33, 3) := by decide +kernel
theorem dL_law_328 : decode cL_law 328 = .ok (.aload_n 1, 1) := by decide +kernel
theorem dL_law_329 : decode cL_law 329 = .ok (.invokevirtual 89, 3) := by decide +kernel
theorem dL_law_332 : decode cL_law 332 = .ok (.ifCond .lt 26, 3) := by decide +kernel
theorem dL_law_335 : decode cL_law 335 = .ok (.aload_n 1, 1) := by decide +kernel
theorem dL_law_336 : decode cL_law 336 = .ok (.invokestatic 69, 3) := by decide +kernel
theorem dL_law_339 : decode cL_law 339 = .ok (.lload 13, 2) := by decide +kernel
theorem dL_law_341 : decode cL_law 341 = .ok (.lcmp, 1) := by decide +kernel
theorem dL_law_342 : decode cL_law 342 = .ok (.ifCond .ne 16, 3) := by decide +kernel
theorem dL_law_345 : decode cL_law 345 = .ok (.aload_n 1, 1) := by decide +kernel
theorem dL_law_346 : decode cL_law 346 = .ok (.invokevirtual 98, 3) := by decide +kernel
theorem dL_law_349 : decode cL_law 349 = .ok (.iload 15, 2) := by decide +kernel
theorem dL_law_351 : decode cL_law 351 = .ok (.if_icmp .ne 7, 3) := by decide +kernel
theorem dL_law_354 : decode cL_law 354 = .ok (.iconst 1, 1) := by decide +kernel
theorem dL_law_355 : decode cL_law 355 = .ok (.goto 4, 3) := by decide +kernel
theorem dL_law_358 : decode cL_law 358 = .ok (.iconst 0, 1) := by decide +kernel
theorem dL_law_359 : decode cL_law 359 = .ok (.istore_n 2, 1) := by decide +kernel
theorem dL_law_360 : decode cL_law 360 = .ok (.lload 13, 2) := by decide +kernel
theorem dL_law_362 : decode cL_law 362 = .ok (.lstore_n 3, 1) := by decide +kernel
theorem dL_law_363 : decode cL_law 363 = .ok (.iload 15, 2) := by decide +kernel
theorem dL_law_365 : decode cL_law 365 = .ok (.istore 5, 2) := by decide +kernel
theorem dL_law_367 : decode cL_law 367 = .ok (.iinc 6 1, 3) := by decide +kernel
theorem dL_law_370 : decode cL_law 370 = .ok (.goto (-276), 3) := by decide +kernel
theorem dL_law_373 : decode cL_law 373 = .ok (.iload_n 2, 1) := by decide +kernel
theorem dL_law_374 : decode cL_law 374 = .ok (.ireturn, 1) := by decide +kernel
