theorem dL_cell_0 : decode cL_cell 0 = .ok (.iload_n 1, 1) := by decide +kernel
theorem dL_cell_1 : decode cL_cell 1 = .ok (.aload_n 0, 1) := by decide +kernel
theorem dL_cell_2 : decode cL_cell 2 = .ok (.arraylength, 1) := by decide +kernel
theorem dL_cell_3 : decode cL_cell 3 = .ok (.if_icmp .ge 9, 3) := by decide +kernel
theorem dL_cell_6 : decode cL_cell 6 = .ok (.aload_n 0, 1) := by decide +kernel
theorem dL_cell_7 : decode cL_cell 7 = .ok (.iload_n 1, 1) := by decide +kernel
theorem dL_cell_8 : decode cL_cell 8 = .ok (.iaload, 1) := by decide +kernel
theorem dL_cell_9 : decode cL_cell 9 = .ok (.goto 14, 3) := by decide +kernel
theorem dL_cell_12 : decode cL_cell 12 = .ok (.ldc 7, 2) := by decide +kernel
theorem dL_cell_14 : decode cL_cell 14 = .ok (.iload_n 1, 1) := by decide +kernel
theorem dL_cell_15 : decode cL_cell 15 = .ok (.bipush 41, 2) := by decide +kernel
theorem dL_cell_17 : decode cL_cell 17 = .ok (.iadd, 1) := by decide +kernel
theorem dL_cell_18 : decode cL_cell 18 = .ok (.imul, 1) := by decide +kernel
theorem dL_cell_19 : decode cL_cell 19 = .ok (.sipush 8209, 3) := by decide +kernel
theorem dL_cell_22 : decode cL_cell 22 = .ok (.iadd, 1) := by decide +kernel
theorem dL_cell_23 : decode cL_cell 23 = .ok (.ldc 8, 2) := by decide +kernel
theorem dL_cell_25 : decode cL_cell 25 = .ok (.iand, 1) := by decide +kernel
theorem dL_cell_26 : decode cL_cell 26 = .ok (.ireturn, 1) := by decide +kernel
theorem dL_seen_0 : decode cL_seen 0 = .ok (.ldc2_w 9, 3) := by decide +kernel
theorem dL_seen_3 : decode cL_seen 3 = .ok (.lstore_n 1, 1) := by decide +kernel
theorem dL_seen_4 : decode cL_seen 4 = .ok (.iconst 0, 1) := by decide +kernel
theorem dL_seen_5 : decode cL_seen 5 = .ok (.istore_n 3, 1) := by decide +kernel
theorem dL_seen_6 : decode cL_seen 6 = .ok (.iload_n 3, 1) := by decide +kernel
theorem dL_seen_7 : decode cL_seen 7 = .ok (.bipush 13, 2) := by decide +kernel
theorem dL_seen_9 : decode cL_seen 9 = .ok (.if_icmp .ge 22, 3) := by decide +kernel
theorem dL_seen_12 : decode cL_seen 12 = .ok (.ldc2_w 11, 3) := by decide +kernel
theorem dL_seen_15 : decode cL_seen 15 = .ok (.lload_n 1, 1) := by decide +kernel
theorem dL_seen_16 : decode cL_seen 16 = .ok (.lmul, 1) := by decide +kernel
theorem dL_seen_17 : decode cL_seen 17 = .ok (.aload_n 0, 1) := by decide +kernel
theorem dL_seen_18 : decode cL_seen 18 = .ok (.iload_n 3, 1) := by decide +kernel
theorem dL_seen_19 : decode cL_seen 19 = .ok (.invokevirtual 13, 3) := by decide +kernel
theorem dL_seen_22 : decode cL_seen 22 = .ok (.i2l, 1) := by decide +kernel
theorem dL_seen_23 : decode cL_seen 23 = .ok (.ladd, 1) := by decide +kernel
theorem dL_seen_24 : decode cL_seen 24 = .ok (.lstore_n 1, 1) := by decide +kernel
theorem dL_seen_25 : decode cL_seen 25 = .ok (.iinc 3 1, 3) := by decide +kernel
theorem dL_seen_28 : decode cL_seen 28 = .ok (.goto (-22), 3) := by decide +kernel
theorem dL_seen_31 : decode cL_seen 31 = .ok (.iconst 0, 1) := by decide +kernel
theorem dL_seen_32 : decode cL_seen 32 = .ok (.istore_n 3, 1) := by decide +kernel
theorem dL_seen_33 : decode cL_seen 33 = .ok (.iload_n 3, 1) := by decide +kernel
theorem dL_seen_34 : decode cL_seen 34 = .ok (.bipush 66, 2) := by decide +kernel
theorem dL_seen_36 : decode cL_seen 36 = .ok (.if_icmp .ge 29, 3) := by decide +kernel
theorem dL_seen_39 : decode cL_seen 39 = .ok (.ldc2_w 11, 3) := by decide +kernel
theorem dL_seen_42 : decode cL_seen 42 = .ok (.lload_n 1, 1) := by decide +kernel
theorem dL_seen_43 : decode cL_seen 43 = .ok (.lmul, 1) := by decide +kernel
theorem dL_seen_44 : decode cL_seen 44 = .ok (.aload_n 0, 1) := by decide +kernel
theorem dL_seen_45 : decode cL_seen 45 = .ok (.iload_n 3, 1) := by decide +kernel
theorem dL_seen_46 : decode cL_seen 46 = .ok (.bipush 11, 2) := by decide +kernel
theorem dL_seen_48 : decode cL_seen 48 = .ok (.idiv, 1) := by decide +kernel
theorem dL_seen_49 : decode cL_seen 49 = .ok (.iload_n 3, 1) := by decide +kernel
theorem dL_seen_50 : decode cL_seen 50 = .ok (.bipush 11, 2) := by decide +kernel
theorem dL_seen_52 : decode cL_seen 52 = .ok (.irem, 1) := by decide +kernel
theorem dL_seen_53 : decode cL_seen 53 = .ok (.invokevirtual 19, 3) := by decide +kernel
theorem dL_seen_56 : decode cL_seen 56 = .ok (.i2l, 1) := by decide +kernel
theorem dL_seen_57 : decode cL_seen 57 = .ok (.ladd, 1) := by decide +kernel
theorem dL_seen_58 : decode cL_seen 58 = .ok (.lstore_n 1, 1) := by decide +kernel
theorem dL_seen_59 : decode cL_seen 59 = .ok (.iinc 3 1, 3) := by decide +kernel
theorem dL_seen_62 : decode cL_seen 62 = .ok (.goto (-29), 3) := by decide +kernel
theorem dL_seen_65 : decode cL_seen 65 = .ok (.iconst 0, 1) := by decide +kernel
theorem dL_seen_66 : decode cL_seen 66 = .ok (.istore_n 3, 1) := by decide +kernel
theorem dL_seen_67 : decode cL_seen 67 = .ok (.iload_n 3, 1) := by decide +kernel
theorem dL_seen_68 : decode cL_seen 68 = .ok (.bipush 7, 2) := by decide +kernel
theorem dL_seen_70 : decode cL_seen 70 = .ok (.if_icmp .ge 33, 3) := by decide +kernel
theorem dL_seen_73 : decode cL_seen 73 = .ok (.ldc2_w 11, 3) := by decide +kernel
theorem dL_seen_76 : decode cL_seen 76 = .ok (.ldc2_w 11, 3) := by decide +kernel
theorem dL_seen_79 : decode cL_seen 79 = .ok (.lload_n 1, 1) := by decide +kernel
theorem dL_seen_80 : decode cL_seen 80 = .ok (.lmul, 1) := by decide +kernel
theorem dL_seen_81 : decode cL_seen 81 = .ok (.aload_n 0, 1) := by decide +kernel
theorem dL_seen_82 : decode cL_seen 82 = .ok (.iload_n 3, 1) := by decide +kernel
theorem dL_seen_83 : decode cL_seen 83 = .ok (.invokevirtual 23, 3) := by decide +kernel
theorem dL_seen_86 : decode cL_seen 86 = .ok (.i2l, 1) := by decide +kernel
theorem dL_seen_87 : decode cL_seen 87 = .ok (.ladd, 1) := by decide +kernel
theorem dL_seen_88 : decode cL_seen 88 = .ok (.lmul, 1) := by decide +kernel
theorem dL_seen_89 : decode cL_seen 89 = .ok (.aload_n 0, 1) := by decide +kernel
theorem dL_seen_90 : decode cL_seen 90 = .ok (.iload_n 3, 1) := by decide +kernel
theorem dL_seen_91 : decode cL_seen 91 = .ok (.invokevirtual 26, 3) := by decide +kernel
theorem dL_seen_94 : decode cL_seen 94 = .ok (.i2l, 1) := by decide +kernel
theorem dL_seen_95 : decode cL_seen 95 = .ok (.ladd, 1) := by decide +kernel
theorem dL_seen_96 : decode cL_seen 96 = .ok (.lstore_n 1, 1) := by decide +kernel
theorem dL_seen_97 : decode cL_seen 97 = .ok (.iinc 3 1, 3) := by decide +kernel
theorem dL_seen_100 : decode cL_seen 100 = .ok (.goto (-33), 3) := by decide +kernel
theorem dL_seen_103 : decode cL_seen 103 = .ok (.lload_n 1, 1) := by decide +kernel
theorem dL_seen_104 : decode cL_seen 104 = .ok (.lreturn, 1) := by decide +kernel
theorem dL_isWhole_0 : decode cL_isWhole 0 = .ok (.aload_n 0, 1) := by decide +kernel
theorem dL_isWhole_1 : decode cL_isWhole 1 = .ok (.iconst 0, 1) := by decide +kernel
theorem dL_isWhole_2 : decode cL_isWhole 2 = .ok (.invokevirtual 13, 3) := by decide +kernel
theorem dL_isWhole_5 : decode cL_isWhole 5 = .ok (.istore_n 1, 1) := by decide +kernel
theorem dL_isWhole_6 : decode cL_isWhole 6 = .ok (.iconst 0, 1) := by decide +kernel
theorem dL_isWhole_7 : decode cL_isWhole 7 = .ok (.istore_n 2, 1) := by decide +kernel
theorem dL_isWhole_8 : decode cL_isWhole 8 = .ok (.iconst 0, 1) := by decide +kernel
theorem dL_isWhole_9 : decode cL_isWhole 9 = .ok (.istore_n 3, 1) := by decide +kernel
theorem dL_isWhole_10 : decode cL_isWhole 10 = .ok (.iconst 0, 1) := by decide +kernel
theorem dL_isWhole_11 : decode cL_isWhole 11 = .ok (.istore 4, 2) := by decide +kernel
theorem dL_isWhole_13 : decode cL_isWhole 13 = .ok (.iconst 0, 1) := by decide +kernel
theorem dL_isWhole_14 : decode cL_isWhole 14 = .ok (.istore 5, 2) := by decide +kernel
theorem dL_isWhole_16 : decode cL_isWhole 16 = .ok (.iconst 0, 1) := by decide +kernel
theorem dL_isWhole_17 : decode cL_isWhole 17 = .ok (.istore 6, 2) := by decide +kernel
theorem dL_isWhole_19 : decode cL_isWhole 19 = .ok (.iconst 0, 1) := by decide +kernel
theorem dL_isWhole_20 : decode cL_isWhole 20 = .ok (.istore 7, 2) := by decide +kernel
theorem dL_isWhole_22 : decode cL_isWhole 22 = .ok (.iconst 0, 1) := by decide +kernel
theorem dL_isWhole_23 : decode cL_isWhole 23 = .ok (.istore 8, 2) := by decide +kernel
theorem dL_isWhole_25 : decode cL_isWhole 25 = .ok (.iconst 1, 1) := by decide +kernel
theorem dL_isWhole_26 : decode cL_isWhole 26 = .ok (.istore 9, 2) := by decide +kernel
theorem dL_isWhole_28 : decode cL_isWhole 28 = .ok (.iconst 0, 1) := by decide +kernel
theorem dL_isWhole_29 : decode cL_isWhole 29 = .ok (.istore 10, 2) := by decide +kernel
theorem dL_isWhole_31 : decode cL_isWhole 31 = .ok (.iload 10, 2) := by decide +kernel
theorem dL_isWhole_33 : decode cL_isWhole 33 = .ok (.bipush 6, 2) := by decide +kernel
theorem dL_isWhole_35 : decode cL_isWhole 35 = .ok (.if_icmp .ge 292, 3) := by decide +kernel
theorem dL_isWhole_38 : decode cL_isWhole 38 = .ok (.iload 9, 2) := by decide +kernel
theorem dL_isWhole_40 : decode cL_isWhole 40 = .ok (.ifCond .eq 287, 3) := by decide +kernel
theorem dL_isWhole_43 : decode cL_isWhole 43 = .ok (.aload_n 0, 1) := by decide +kernel
theorem dL_isWhole_44 : decode cL_isWhole 44 = .ok (.iload 10, 2) := by decide +kernel
theorem dL_isWhole_46 : decode cL_isWhole 46 = .ok (.iconst 0, 1) := by decide +kernel
theorem dL_isWhole_47 : decode cL_isWhole 47 = .ok (.invokevirtual 19, 3) := by decide +kernel
theorem dL_isWhole_50 : decode cL_isWhole 50 = .ok (.istore 11, 2) := by decide +kernel
theorem dL_isWhole_52 : decode cL_isWhole 52 = .ok (.aload_n 0, 1) := by decide +kernel
theorem dL_isWhole_53 : decode cL_isWhole 53 = .ok (.iload 10, 2) := by decide +kernel
theorem dL_isWhole_55 : decode cL_isWhole 55 = .ok (.bipush 10, 2) := by decide +kernel
theorem dL_isWhole_57 : decode cL_isWhole 57 = .ok (.invokevirtual 19, 3) := by decide +kernel
theorem dL_isWhole_60 : decode cL_isWhole 60 = .ok (.istore 12, 2) := by decide +kernel
theorem dL_isWhole_62 : decode cL_isWhole 62 = .ok (.iload_n 1, 1) := by decide +kernel
theorem dL_isWhole_63 : decode cL_isWhole 63 = .ok (.iconst 3, 1) := by decide +kernel
theorem dL_isWhole_64 : decode cL_isWhole 64 = .ok (.if_icmp .ge 13, 3) := by decide +kernel
theorem dL_isWhole_67 : decode cL_isWhole 67 = .ok (.iload 11, 2) := by decide +kernel
theorem dL_isWhole_69 : decode cL_isWhole 69 = .ok (.iconst 1, 1) := by decide +kernel
theorem dL_isWhole_70 : decode cL_isWhole 70 = .ok (.if_icmp .le 7, 3) := by decide +kernel
theorem dL_isWhole_73 : decode cL_isWhole 73 = .ok (.iconst 1, 1) := by decide +kernel
theorem dL_isWhole_74 : decode cL_isWhole 74 = .ok (.goto 4, 3) := by decide +kernel
theorem dL_isWhole_77 : decode cL_isWhole 77 = .ok (.iconst 0, 1) := by decide +kernel
theorem dL_isWhole_78 : decode cL_isWhole 78 = .ok (.istore 13, 2) := by decide +kernel
theorem dL_isWhole_80 : decode cL_isWhole 80 = .ok (.iload_n 2, 1) := by decide +kernel
theorem dL_isWhole_81 : decode cL_isWhole 81 = .ok (.iload 11, 2) := by decide +kernel
theorem dL_isWhole_83 : decode cL_isWhole 83 = .ok (.iconst 4, 1) := by decide +kernel
theorem dL_isWhole_84 : decode cL_isWhole 84 = .ok (.if_icmp .ne 7, 3) := by decide +kernel
theorem dL_isWhole_87 : decode cL_isWhole 87 = .ok (.iconst 1, 1) := by decide +kernel
theorem dL_isWhole_88 : decode cL_isWhole 88 = .ok (.goto 4, 3) := by decide +kernel
theorem dL_isWhole_91 : decode cL_isWhole 91 = .ok (.iconst 0, 1) := by decide +kernel
theorem dL_isWhole_92 : decode cL_isWhole 92 = .ok (.iadd, 1) := by decide +kernel
theorem dL_isWhole_93 : decode cL_isWhole 93 = .ok (.istore_n 2, 1) := by decide +kernel
theorem dL_isWhole_94 : decode cL_isWhole 94 = .ok (.iload_n 3, 1) := by decide +kernel
theorem dL_isWhole_95 : decode cL_isWhole 95 = .ok (.iload 11, 2) := by decide +kernel
theorem dL_isWhole_97 : decode cL_isWhole 97 = .ok (.ifCond .ne 7, 3) := by decide +kernel
theorem dL_isWhole_100 : decode cL_isWhole 100 = .ok (.iconst 1, 1) := by decide +kernel
theorem dL_isWhole_101 : decode cL_isWhole 101 = .ok (.goto 4, 3) := by decide +kernel
theorem dL_isWhole_104 : decode cL_isWhole 104 = .ok (.iconst 0, 1) := by decide +kernel
theorem dL_isWhole_105 : decode cL_isWhole 105 = .ok (.iadd, 1) := by decide +kernel
theorem dL_isWhole_106 : decode cL_isWhole 106 = .ok (.istore_n 3, 1) := by decide +kernel
theorem dL_isWhole_107 : decode cL_isWhole 107 = .ok (.iload 8, 2) := by decide +kernel
theorem dL_isWhole_109 : decode cL_isWhole 109 = .ok (.iload 13, 2) := by decide +kernel
theorem dL_isWhole_111 : decode cL_isWhole 111 = .ok (.ifCond .eq 7, 3) := by decide +kernel
theorem dL_isWhole_114 : decode cL_isWhole 114 = .ok (.iconst 1, 1) := by decide +kernel
theorem dL_isWhole_115 : decode cL_isWhole 115 = .ok (.goto 4, 3) := by decide +kernel
theorem dL_isWhole_118 : decode cL_isWhole 118 = .ok (.iconst 0, 1) := by decide +kernel
theorem dL_isWhole_119 : decode cL_isWhole 119 = .ok (.iadd, 1) := by decide +kernel
theorem dL_isWhole_120 : decode cL_isWhole 120 = .ok (.istore 8, 2) := by decide +kernel
theorem dL_isWhole_122 : decode cL_isWhole 122 = .ok (.iload 4, 2) := by decide +kernel
theorem dL_isWhole_124 : decode cL_isWhole 124 = .ok (.aload_n 0, 1) := by decide +kernel
theorem dL_isWhole_125 : decode cL_isWhole 125 = .ok (.iload 10, 2) := by decide +kernel
theorem dL_isWhole_127 : decode cL_isWhole 127 = .ok (.iconst 1, 1) := by decide +kernel
theorem dL_isWhole_128 : decode cL_isWhole 128 = .ok (.invokevirtual 19, 3) := by decide +kernel
theorem dL_isWhole_131 : decode cL_isWhole 131 = .ok (.iadd, 1) := by decide +kernel
theorem dL_isWhole_132 : decode cL_isWhole 132 = .ok (.istore 4, 2) := by decide +kernel
theorem dL_isWhole_134 : decode cL_isWhole 134 = .ok (.iload 5, 2) := by decide +kernel
theorem dL_isWhole_136 : decode cL_isWhole 136 = .ok (.aload_n 0, 1) := by decide +kernel
theorem dL_isWhole_137 : decode cL_isWhole 137 = .ok (.iload 10, 2) := by decide +kernel
theorem dL_isWhole_139 : decode cL_isWhole 139 = .ok (.iconst 2, 1) := by decide +kernel
theorem dL_isWhole_140 : decode cL_isWhole 140 = .ok (.invokevirtual 19, 3) := by decide +kernel
theorem dL_isWhole_143 : decode cL_isWhole 143 = .ok (.iadd, 1) := by decide +kernel
theorem dL_isWhole_144 : decode cL_isWhole 144 = .ok (.istore 5, 2) := by decide +kernel
theorem dL_isWhole_146 : decode cL_isWhole 146 = .ok (.iload 6, 2) := by decide +kernel
theorem dL_isWhole_148 : decode cL_isWhole 148 = .ok (.aload_n 0, 1) := by decide +kernel
theorem dL_isWhole_149 : decode cL_isWhole 149 = .ok (.iload 10, 2) := by decide +kernel
theorem dL_isWhole_151 : decode cL_isWhole 151 = .ok (.iconst 3, 1) := by decide +kernel
theorem dL_isWhole_152 : decode cL_isWhole 152 = .ok (.invokevirtual 19, 3) := by decide +kernel
theorem dL_isWhole_155 : decode cL_isWhole 155 = .ok (.iadd, 1) := by decide +kernel
theorem dL_isWhole_156 : decode cL_isWhole 156 = .ok (.istore 6, 2) := by decide +kernel
theorem dL_isWhole_158 : decode cL_isWhole 158 = .ok (.iload 7, 2) := by decide +kernel
theorem dL_isWhole_160 : decode cL_isWhole 160 = .ok (.aload_n 0, 1) := by decide +kernel
theorem dL_isWhole_161 : decode cL_isWhole 161 = .ok (.iload 10, 2) := by decide +kernel
theorem dL_isWhole_163 : decode cL_isWhole 163 = .ok (.iconst 4, 1) := by decide +kernel
theorem dL_isWhole_164 : decode cL_isWhole 164 = .ok (.invokevirtual 19, 3) := by decide +kernel
theorem dL_isWhole_167 : decode cL_isWhole 167 = .ok (.iadd, 1) := by decide +kernel
theorem dL_isWhole_168 : decode cL_isWhole 168 = .ok (.istore 7, 2) := by decide +kernel
theorem dL_isWhole_170 : decode cL_isWhole 170 = .ok (.iload 11, 2) := by decide +kernel
theorem dL_isWhole_172 : decode cL_isWhole 172 = .ok (.ifCond .lt 87, 3) := by decide +kernel
theorem dL_isWhole_175 : decode cL_isWhole 175 = .ok (.iload 11, 2) := by decide +kernel
theorem dL_isWhole_177 : decode cL_isWhole 177 = .ok (.bipush 8, 2) := by decide +kernel
theorem dL_isWhole_179 : decode cL_isWhole 179 = .ok (.if_icmp .ge 80, 3) := by decide +kernel
theorem dL_isWhole_182 : decode cL_isWhole 182 = .ok (.iload_n 1, 1) := by decide +kernel
theorem dL_isWhole_183 : decode cL_isWhole 183 = .ok (.ifCond .eq 9, 3) := by decide +kernel
theorem dL_isWhole_186 : decode cL_isWhole 186 = .ok (.iload 11, 2) := by decide +kernel
theorem dL_isWhole_188 : decode cL_isWhole 188 = .ok (.iconst 5, 1) := by decide +kernel
theorem dL_isWhole_189 : decode cL_isWhole 189 = .ok (.if_icmp .ge 70, 3) := by decide +kernel
theorem dL_isWhole_192 : decode cL_isWhole 192 = .ok (.iload 12, 2) := by decide +kernel
theorem dL_isWhole_194 : decode cL_isWhole 194 = .ok (.ifCond .lt 7, 3) := by decide +kernel
theorem dL_isWhole_197 : decode cL_isWhole 197 = .ok (.iconst 1, 1) := by decide +kernel
theorem dL_isWhole_198 : decode cL_isWhole 198 = .ok (.goto 4, 3) := by decide +kernel
theorem dL_isWhole_201 : decode cL_isWhole 201 = .ok (.iconst 0, 1) := by decide +kernel
theorem dL_isWhole_202 : decode cL_isWhole 202 = .ok (.iload 13, 2) := by decide +kernel
theorem dL_isWhole_204 : decode cL_isWhole 204 = .ok (.if_icmp .ne 55, 3) := by decide +kernel
theorem dL_isWhole_207 : decode cL_isWhole 207 = .ok (.iload 12, 2) := by decide +kernel
theorem dL_isWhole_209 : decode cL_isWhole 209 = .ok (.ifCond .lt 14, 3) := by decide +kernel
theorem dL_isWhole_212 : decode cL_isWhole 212 = .ok (.aload_n 0, 1) := by decide +kernel
theorem dL_isWhole_213 : decode cL_isWhole 213 = .ok (.iload 12, 2) := by decide +kernel
theorem dL_isWhole_215 : decode cL_isWhole 215 = .ok (.invokevirtual 23, 3) := by decide +kernel
theorem dL_isWhole_218 : decode cL_isWhole 218 = .ok (.iload 10, 2) := by decide +kernel
theorem dL_isWhole_220 : decode cL_isWhole 220 = .ok (.if_icmp .ne 39, 3) := by decide +kernel
theorem dL_isWhole_223 : decode cL_isWhole 223 = .ok (.iload 11, 2) := by decide +kernel
theorem dL_isWhole_225 : decode cL_isWhole 225 = .ok (.iconst 4, 1) := by decide +kernel
theorem dL_isWhole_226 : decode cL_isWhole 226 = .ok (.if_icmp .lt 13, 3) := by decide +kernel
theorem dL_isWhole_229 : decode cL_isWhole 229 = .ok (.iload_n 1, 1) := by decide +kernel
theorem dL_isWhole_230 : decode cL_isWhole 230 = .ok (.iconst 3, 1) := by decide +kernel
theorem dL_isWhole_231 : decode cL_isWhole 231 = .ok (.if_icmp .eq 8, 3) := by decide +kernel
theorem dL_isWhole_234 : decode cL_isWhole 234 = .ok (.iload 12, 2) := by decide +kernel
theorem dL_isWhole_236 : decode cL_isWhole 236 = .ok (.ifCond .ne 23, 3) := by decide +kernel
theorem dL_isWhole_239 : decode cL_isWhole 239 = .ok (.iload 11, 2) := by decide +kernel
theorem dL_isWhole_241 : decode cL_isWhole 241 = .ok (.iconst 4, 1) := by decide +kernel
theorem dL_isWhole_242 : decode cL_isWhole 242 = .ok (.if_icmp .ne 13, 3) := by decide +kernel
theorem dL_isWhole_245 : decode cL_isWhole 245 = .ok (.aload_n 0, 1) := by decide +kernel
theorem dL_isWhole_246 : decode cL_isWhole 246 = .ok (.iconst 1, 1) := by decide +kernel
theorem dL_isWhole_247 : decode cL_isWhole 247 = .ok (.invokevirtual 13, 3) := by decide +kernel
theorem dL_isWhole_250 : decode cL_isWhole 250 = .ok (.iload 10, 2) := by decide +kernel
theorem dL_isWhole_252 : decode cL_isWhole 252 = .ok (.if_icmp .ne 7, 3) := by decide +kernel
theorem dL_isWhole_255 : decode cL_isWhole 255 = .ok (.iconst 1, 1) := by decide +kernel
theorem dL_isWhole_256 : decode cL_isWhole 256 = .ok (.goto 4, 3) := by decide +kernel
theorem dL_isWhole_259 : decode cL_isWhole 259 = .ok (.iconst 0, 1) := by decide +kernel
theorem dL_isWhole_260 : decode cL_isWhole 260 = .ok (.istore 9, 2) := by decide +kernel
theorem dL_isWhole_262 : decode cL_isWhole 262 = .ok (.iload 9, 2) := by decide +kernel
theorem dL_isWhole_264 : decode cL_isWhole 264 = .ok (.ifCond .eq 54, 3) := by decide +kernel
theorem dL_isWhole_267 : decode cL_isWhole 267 = .ok (.iload_n 1, 1) := by decide +kernel
theorem dL_isWhole_268 : decode cL_isWhole 268 = .ok (.iconst 2, 1) := by decide +kernel
theorem dL_isWhole_269 : decode cL_isWhole 269 = .ok (.if_icmp .ne 28, 3) := by decide +kernel
theorem dL_isWhole_272 : decode cL_isWhole 272 = .ok (.iload 11, 2) := by decide +kernel
theorem dL_isWhole_274 : decode cL_isWhole 274 = .ok (.ifCond .eq 23, 3) := by decide +kernel
theorem dL_isWhole_277 : decode cL_isWhole 277 = .ok (.aload_n 0, 1) := by decide +kernel
theorem dL_isWhole_278 : decode cL_isWhole 278 = .ok (.iload 10, 2) := by decide +kernel
theorem dL_isWhole_280 : decode cL_isWhole 280 = .ok (.bipush 8, 2) := by decide +kernel
theorem dL_isWhole_282 : decode cL_isWhole 282 = .ok (.invokevirtual 19, 3) := by decide +kernel
theorem dL_isWhole_285 : decode cL_isWhole 285 = .ok (.aload_n 0, 1) := by decide +kernel
theorem dL_isWhole_286 : decode cL_isWhole 286 = .ok (.bipush 10, 2) := by decide +kernel
theorem dL_isWhole_288 : decode cL_isWhole 288 = .ok (.invokevirtual 13, 3) := by decide +kernel
theorem dL_isWhole_291 : decode cL_isWhole 291 = .ok (.iload 12, 2) := by decide +kernel
theorem dL_isWhole_293 : decode cL_isWhole 293 = .ok (.iadd, 1) := by decide +kernel
theorem dL_isWhole_294 : decode cL_isWhole 294 = .ok (.if_icmp .ne 24, 3) := by decide +kernel
theorem dL_isWhole_297 : decode cL_isWhole 297 = .ok (.aload_n 0, 1) := by decide +kernel
theorem dL_isWhole_298 : decode cL_isWhole 298 = .ok (.iload 10, 2) := by decide +kernel
theorem dL_isWhole_300 : decode cL_isWhole 300 = .ok (.iconst 2, 1) := by decide +kernel
theorem dL_isWhole_301 : decode cL_isWhole 301 = .ok (.invokevirtual 19, 3) := by decide +kernel
theorem dL_isWhole_304 : decode cL_isWhole 304 = .ok (.aload_n 0, 1) := by decide +kernel
theorem dL_isWhole_305 : decode cL_isWhole 305 = .ok (.iload 10, 2) := by decide +kernel
theorem dL_isWhole_307 : decode cL_isWhole 307 = .ok (.iconst 1, 1) := by decide +kernel
theorem dL_isWhole_308 : decode cL_isWhole 308 = .ok (.invokevirtual 19, 3) := by decide +kernel
theorem dL_isWhole_311 : decode cL_isWhole 311 = .ok (.if_icmp .gt 7, 3) := by decide +kernel
theorem dL_isWhole_314 : decode cL_isWhole 314 = .ok (.iconst 1, 1) := by decide +kernel
theorem dL_isWhole_315 : decode cL_isWhole 315 = .ok (.goto 4, 3) := by decide +kernel
theorem dL_isWhole_318 : decode cL_isWhole 318 = .ok (.iconst 0, 1) := by decide +kernel
theorem dL_isWhole_319 : decode cL_isWhole 319 = .ok (.istore 9, 2) := by decide +kernel
theorem dL_isWhole_321 : decode cL_isWhole 321 = .ok (.iinc 10 1, 3) := by decide +kernel
theorem dL_isWhole_324 : decode cL_isWhole 324 = .ok (.goto (-293), 3) := by decide +kernel
theorem dL_isWhole_327 : decode cL_isWhole 327 = .ok (.iload 9, 2) := by decide +kernel
theorem dL_isWhole_329 : decode cL_isWhole 329 = .ok (.ifCond .eq 104, 3) := by decide +kernel
theorem dL_isWhole_332 : decode cL_isWhole 332 = .ok (.iload_n 2, 1) := by decide +kernel
theorem dL_isWhole_333 : decode cL_isWhole 333 = .ok (.iconst 1, 1) := by decide +kernel
theorem dL_isWhole_334 : decode cL_isWhole 334 = .ok (.if_icmp .gt 99, 3) := by decide +kernel
theorem dL_isWhole_337 : decode cL_isWhole 337 = .ok (.iload_n 2, 1) := by decide +kernel
theorem dL_isWhole_338 : decode cL_isWhole 338 = .ok (.iconst 1, 1) := by decide +kernel
theorem dL_isWhole_339 : decode cL_isWhole 339 = .ok (.if_icmp .ne 7, 3) := by decide +kernel
theorem dL_isWhole_342 : decode cL_isWhole 342 = .ok (.iconst 1, 1) := by decide +kernel
theorem dL_isWhole_343 : decode cL_isWhole 343 = .ok (.goto 4, 3) := by decide +kernel
theorem dL_isWhole_346 : decode cL_isWhole 346 = .ok (.iconst 0, 1) := by decide +kernel
theorem dL_isWhole_347 : decode cL_isWhole 347 = .ok (.aload_n 0, 1) := by decide +kernel
theorem dL_isWhole_348 : decode cL_isWhole 348 = .ok (.iconst 1, 1) := by decide +kernel
theorem dL_isWhole_349 : decode cL_isWhole 349 = .ok (.invokevirtual 13, 3) := by decide +kernel
theorem dL_isWhole_352 : decode cL_isWhole 352 = .ok (.ifCond .lt 7, 3) := by decide +kernel
theorem dL_isWhole_355 : decode cL_isWhole 355 = .ok (.iconst 1, 1) := by decide +kernel
theorem dL_isWhole_356 : decode cL_isWhole 356 = .ok (.goto 4, 3) := by decide +kernel
theorem dL_isWhole_359 : decode cL_isWhole 359 = .ok (.iconst 0, 1) := by decide +kernel
theorem dL_isWhole_360 : decode cL_isWhole 360 = .ok (.if_icmp .ne 73, 3) := by decide +kernel
theorem dL_isWhole_363 : decode cL_isWhole 363 = .ok (.aload_n 0, 1) := by decide +kernel
theorem dL_isWhole_364 : decode cL_isWhole 364 = .ok (.iconst 3, 1) := by decide +kernel
theorem dL_isWhole_365 : decode cL_isWhole 365 = .ok (.invokevirtual 13, 3) := by decide +kernel
theorem dL_isWhole_368 : decode cL_isWhole 368 = .ok (.bipush 6, 2) := by decide +kernel
theorem dL_isWhole_370 : decode cL_isWhole 370 = .ok (.iload_n 3, 1) := by decide +kernel
theorem dL_isWhole_371 : decode cL_isWhole 371 = .ok (.isub, 1) := by decide +kernel
theorem dL_isWhole_372 : decode cL_isWhole 372 = .ok (.if_icmp .ne 61, 3) := by decide +kernel
theorem dL_isWhole_375 : decode cL_isWhole 375 = .ok (.aload_n 0, 1) := by decide +kernel
theorem dL_isWhole_376 : decode cL_isWhole 376 = .ok (.iload 8, 2) := by decide +kernel
theorem dL_isWhole_378 : decode cL_isWhole 378 = .ok (.invokevirtual 23, 3) := by decide +kernel
theorem dL_isWhole_381 : decode cL_isWhole 381 = .ok (.bipush (-5), 2) := by decide +kernel
theorem dL_isWhole_383 : decode cL_isWhole 383 = .ok (.if_icmp .ne 50, 3) := by decide +kernel
theorem dL_isWhole_386 : decode cL_isWhole 386 = .ok (.aload_n 0, 1) := by decide +kernel
theorem dL_isWhole_387 : decode cL_isWhole 387 = .ok (.iconst 5, 1) := by decide +kernel
theorem dL_isWhole_388 : decode cL_isWhole 388 = .ok (.invokevirtual 13, 3) := by decide +kernel
theorem dL_isWhole_391 : decode cL_isWhole 391 = .ok (.iload 4, 2) := by decide +kernel
theorem dL_isWhole_393 : decode cL_isWhole 393 = .ok (.if_icmp .ne 40, 3) := by decide +kernel
theorem dL_isWhole_396 : decode cL_isWhole 396 = .ok (.aload_n 0, 1) := by decide +kernel
theorem dL_isWhole_397 : decode cL_isWhole 397 = .ok (.bipush 6, 2) := by decide +kernel
theorem dL_isWhole_399 : decode cL_isWhole 399 = .ok (.invokevirtual 13, 3) := by decide +kernel
theorem dL_isWhole_402 : decode cL_isWhole 402 = .ok (.iload 5, 2) := by decide +kernel
theorem dL_isWhole_404 : decode cL_isWhole 404 = .ok (.if_icmp .ne 29, 3) := by decide +kernel
theorem dL_isWhole_407 : decode cL_isWhole 407 = .ok (.aload_n 0, 1) := by decide +kernel
theorem dL_isWhole_408 : decode cL_isWhole 408 = .ok (.bipush 7, 2) := by decide +kernel
theorem dL_isWhole_410 : decode cL_isWhole 410 = .ok (.invokevirtual 13, 3) := by decide +kernel
theorem dL_isWhole_413 : decode cL_isWhole 413 = .ok (.iload 6, 2) := by decide +kernel
theorem dL_isWhole_415 : decode cL_isWhole 415 = .ok (.if_icmp .ne 18, 3) := by decide +kernel
theorem dL_isWhole_418 : decode cL_isWhole 418 = .ok (.aload_n 0, 1) := by decide +kernel
theorem dL_isWhole_419 : decode cL_isWhole 419 = .ok (.bipush 8, 2) := by decide +kernel
theorem dL_isWhole_421 : decode cL_isWhole 421 = .ok (.invokevirtual 13, 3) := by decide +kernel
theorem dL_isWhole_424 : decode cL_isWhole 424 = .ok (.iload 7, 2) := by decide +kernel
theorem dL_isWhole_426 : decode cL_isWhole 426 = .ok (.if_icmp .ne 7, 3) := by decide +kernel
theorem dL_isWhole_429 : decode cL_isWhole 429 = .ok (.iconst 1, 1) := by decide +kernel
theorem dL_isWhole_430 : decode cL_isWhole 430 = .ok (.goto 4, 3) := by decide +kernel
theorem dL_isWhole_433 : decode cL_isWhole 433 = .ok (.iconst 0, 1) := by decide +kernel
theorem dL_isWhole_434 : decode cL_isWhole 434 = .ok (.ireturn, 1) := by decide +kernel
theorem dL_refusesAny_0 : decode cL_refusesAny 0 = .ok (.iload_n 1, 1) := by decide +kernel
theorem dL_refusesAny_1 : decode cL_refusesAny 1 = .ok (.iconst 2, 1) := by decide +kernel
theorem dL_refusesAny_2 : decode cL_refusesAny 2 = .ok (.irem, 1) := by decide +kernel
theorem dL_refusesAny_3 : decode cL_refusesAny 3 = .ok (.ifCond .ne 12, 3) := by decide +kernel
theorem dL_refusesAny_6 : decode cL_refusesAny 6 = .ok (.iconst (-1), 1) := by decide +kernel
theorem dL_refusesAny_7 : decode cL_refusesAny 7 = .ok (.iload_n 1, 1) := by decide +kernel
theorem dL_refusesAny_8 : decode cL_refusesAny 8 = .ok (.bipush 99, 2) := by decide +kernel
theorem dL_refusesAny_10 : decode cL_refusesAny 10 = .ok (.irem, 1) := by decide +kernel
theorem dL_refusesAny_11 : decode cL_refusesAny 11 = .ok (.isub, 1) := by decide +kernel
theorem dL_refusesAny_12 : decode cL_refusesAny 12 = .ok (.goto 10, 3) := by decide +kernel
theorem dL_refusesAny_15 : decode cL_refusesAny 15 = .ok (.bipush 6, 2) := by decide +kernel
theorem dL_refusesAny_17 : decode cL_refusesAny 17 = .ok (.iload_n 1, 1) := by decide +kernel
theorem dL_refusesAny_18 : decode cL_refusesAny 18 = .ok (.bipush 99, 2) := by decide +kernel
theorem dL_refusesAny_20 : decode cL_refusesAny 20 = .ok (.irem, 1) := by decide +kernel
theorem dL_refusesAny_21 : decode cL_refusesAny 21 = .ok (.iadd, 1) := by decide +kernel
theorem dL_refusesAny_22 : decode cL_refusesAny 22 = .ok (.istore_n 2, 1) := by decide +kernel
theorem dL_refusesAny_23 : decode cL_refusesAny 23 = .ok (.aload_n 0, 1) := by decide +kernel
theorem dL_refusesAny_24 : decode cL_refusesAny 24 = .ok (.iload_n 1, 1) := by decide +kernel
theorem dL_refusesAny_25 : decode cL_refusesAny 25 = .ok (.iconst 2, 1) := by decide +kernel
theorem dL_refusesAny_26 : decode cL_refusesAny 26 = .ok (.irem, 1) := by decide +kernel
theorem dL_refusesAny_27 : decode cL_refusesAny 27 = .ok (.ifCond .ne 12, 3) := by decide +kernel
theorem dL_refusesAny_30 : decode cL_refusesAny 30 = .ok (.iconst (-1), 1) := by decide +kernel
theorem dL_refusesAny_31 : decode cL_refusesAny 31 = .ok (.iload_n 1, 1) := by decide +kernel
theorem dL_refusesAny_32 : decode cL_refusesAny 32 = .ok (.bipush 99, 2) := by decide +kernel
theorem dL_refusesAny_34 : decode cL_refusesAny 34 = .ok (.irem, 1) := by decide +kernel
theorem dL_refusesAny_35 : decode cL_refusesAny 35 = .ok (.isub, 1) := by decide +kernel
theorem dL_refusesAny_36 : decode cL_refusesAny 36 = .ok (.goto 9, 3) := by decide +kernel
theorem dL_refusesAny_39 : decode cL_refusesAny 39 = .ok (.iconst 4, 1) := by decide +kernel
theorem dL_refusesAny_40 : decode cL_refusesAny 40 = .ok (.iload_n 1, 1) := by decide +kernel
theorem dL_refusesAny_41 : decode cL_refusesAny 41 = .ok (.bipush 99, 2) := by decide +kernel
theorem dL_refusesAny_43 : decode cL_refusesAny 43 = .ok (.irem, 1) := by decide +kernel
theorem dL_refusesAny_44 : decode cL_refusesAny 44 = .ok (.iadd, 1) := by decide +kernel
theorem dL_refusesAny_45 : decode cL_refusesAny 45 = .ok (.invokevirtual 31, 3) := by decide +kernel
theorem dL_refusesAny_48 : decode cL_refusesAny 48 = .ok (.iconst (-1), 1) := by decide +kernel
theorem dL_refusesAny_49 : decode cL_refusesAny 49 = .ok (.if_icmp .ne 150, 3) := by decide +kernel
theorem dL_refusesAny_52 : decode cL_refusesAny 52 = .ok (.aload_n 0, 1) := by decide +kernel
theorem dL_refusesAny_53 : decode cL_refusesAny 53 = .ok (.iconst 3, 1) := by decide +kernel
theorem dL_refusesAny_54 : decode cL_refusesAny 54 = .ok (.invokevirtual 13, 3) := by decide +kernel
theorem dL_refusesAny_57 : decode cL_refusesAny 57 = .ok (.ifCond .eq 15, 3) := by decide +kernel
theorem dL_refusesAny_60 : decode cL_refusesAny 60 = .ok (.aload_n 0, 1) := by decide +kernel
theorem dL_refusesAny_61 : decode cL_refusesAny 61 = .ok (.iload_n 1, 1) := by decide +kernel
theorem dL_refusesAny_62 : decode cL_refusesAny 62 = .ok (.iconst 4, 1) := by decide +kernel
theorem dL_refusesAny_63 : decode cL_refusesAny 63 = .ok (.irem, 1) := by decide +kernel
theorem dL_refusesAny_64 : decode cL_refusesAny 64 = .ok (.invokevirtual 31, 3) := by decide +kernel
theorem dL_refusesAny_67 : decode cL_refusesAny 67 = .ok (.bipush (-4), 2) := by decide +kernel
theorem dL_refusesAny_69 : decode cL_refusesAny 69 = .ok (.if_icmp .ne 130, 3) := by decide +kernel
theorem dL_refusesAny_72 : decode cL_refusesAny 72 = .ok (.aload_n 0, 1) := by decide +kernel
theorem dL_refusesAny_73 : decode cL_refusesAny 73 = .ok (.iload_n 2, 1) := by decide +kernel
theorem dL_refusesAny_74 : decode cL_refusesAny 74 = .ok (.invokevirtual 34, 3) := by decide +kernel
theorem dL_refusesAny_77 : decode cL_refusesAny 77 = .ok (.iconst (-1), 1) := by decide +kernel
theorem dL_refusesAny_78 : decode cL_refusesAny 78 = .ok (.if_icmp .ne 121, 3) := by decide +kernel
theorem dL_refusesAny_81 : decode cL_refusesAny 81 = .ok (.aload_n 0, 1) := by decide +kernel
theorem dL_refusesAny_82 : decode cL_refusesAny 82 = .ok (.iload_n 2, 1) := by decide +kernel
theorem dL_refusesAny_83 : decode cL_refusesAny 83 = .ok (.invokevirtual 37, 3) := by decide +kernel
theorem dL_refusesAny_86 : decode cL_refusesAny 86 = .ok (.iconst (-1), 1) := by decide +kernel
theorem dL_refusesAny_87 : decode cL_refusesAny 87 = .ok (.if_icmp .ne 112, 3) := by decide +kernel
theorem dL_refusesAny_90 : decode cL_refusesAny 90 = .ok (.aload_n 0, 1) := by decide +kernel
theorem dL_refusesAny_91 : decode cL_refusesAny 91 = .ok (.iconst 0, 1) := by decide +kernel
theorem dL_refusesAny_92 : decode cL_refusesAny 92 = .ok (.iconst 1, 1) := by decide +kernel
theorem dL_refusesAny_93 : decode cL_refusesAny 93 = .ok (.invokevirtual 40, 3) := by decide +kernel
theorem dL_refusesAny_96 : decode cL_refusesAny 96 = .ok (.bipush (-2), 2) := by decide +kernel
theorem dL_refusesAny_98 : decode cL_refusesAny 98 = .ok (.if_icmp .ne 101, 3) := by decide +kernel
theorem dL_refusesAny_101 : decode cL_refusesAny 101 = .ok (.aload_n 0, 1) := by decide +kernel
theorem dL_refusesAny_102 : decode cL_refusesAny 102 = .ok (.bipush 64, 2) := by decide +kernel
theorem dL_refusesAny_104 : decode cL_refusesAny 104 = .ok (.iload_n 1, 1) := by decide +kernel
theorem dL_refusesAny_105 : decode cL_refusesAny 105 = .ok (.bipush 99, 2) := by decide +kernel
theorem dL_refusesAny_107 : decode cL_refusesAny 107 = .ok (.irem, 1) := by decide +kernel
theorem dL_refusesAny_108 : decode cL_refusesAny 108 = .ok (.iadd, 1) := by decide +kernel
theorem dL_refusesAny_109 : decode cL_refusesAny 109 = .ok (.iconst 1, 1) := by decide +kernel
theorem dL_refusesAny_110 : decode cL_refusesAny 110 = .ok (.invokevirtual 40, 3) := by decide +kernel
theorem dL_refusesAny_113 : decode cL_refusesAny 113 = .ok (.bipush (-2), 2) := by decide +kernel
theorem dL_refusesAny_115 : decode cL_refusesAny 115 = .ok (.if_icmp .ne 84, 3) := by decide +kernel
theorem dL_refusesAny_118 : decode cL_refusesAny 118 = .ok (.aload_n 0, 1) := by decide +kernel
theorem dL_refusesAny_119 : decode cL_refusesAny 119 = .ok (.iconst 1, 1) := by decide +kernel
theorem dL_refusesAny_120 : decode cL_refusesAny 120 = .ok (.iload_n 1, 1) := by decide +kernel
theorem dL_refusesAny_121 : decode cL_refusesAny 121 = .ok (.iconst 2, 1) := by decide +kernel
theorem dL_refusesAny_122 : decode cL_refusesAny 122 = .ok (.irem, 1) := by decide +kernel
theorem dL_refusesAny_123 : decode cL_refusesAny 123 = .ok (.ifCond .ne 7, 3) := by decide +kernel
theorem dL_refusesAny_126 : decode cL_refusesAny 126 = .ok (.iconst 0, 1) := by decide +kernel
theorem dL_refusesAny_127 : decode cL_refusesAny 127 = .ok (.goto 6, 3) := by decide +kernel
theorem dL_refusesAny_130 : decode cL_refusesAny 130 = .ok (.sipush 201, 3) := by decide +kernel
theorem dL_refusesAny_133 : decode cL_refusesAny 133 = .ok (.invokevirtual 40, 3) := by decide +kernel
theorem dL_refusesAny_136 : decode cL_refusesAny 136 = .ok (.bipush (-2), 2) := by decide +kernel
theorem dL_refusesAny_138 : decode cL_refusesAny 138 = .ok (.if_icmp .ne 61, 3) := by decide +kernel
theorem dL_refusesAny_141 : decode cL_refusesAny 141 = .ok (.aload_n 0, 1) := by decide +kernel
theorem dL_refusesAny_142 : decode cL_refusesAny 142 = .ok (.iconst (-1), 1) := by decide +kernel
theorem dL_refusesAny_143 : decode cL_refusesAny 143 = .ok (.iload_n 1, 1) := by decide +kernel
theorem dL_refusesAny_144 : decode cL_refusesAny 144 = .ok (.bipush 99, 2) := by decide +kernel
theorem dL_refusesAny_146 : decode cL_refusesAny 146 = .ok (.irem, 1) := by decide +kernel
theorem dL_refusesAny_147 : decode cL_refusesAny 147 = .ok (.isub, 1) := by decide +kernel
theorem dL_refusesAny_148 : decode cL_refusesAny 148 = .ok (.invokevirtual 43, 3) := by decide +kernel
theorem dL_refusesAny_151 : decode cL_refusesAny 151 = .ok (.bipush (-2), 2) := by decide +kernel
theorem dL_refusesAny_153 : decode cL_refusesAny 153 = .ok (.if_icmp .ne 46, 3) := by decide +kernel
theorem dL_refusesAny_156 : decode cL_refusesAny 156 = .ok (.aload_n 0, 1) := by decide +kernel
theorem dL_refusesAny_157 : decode cL_refusesAny 157 = .ok (.aload_n 0, 1) := by decide +kernel
theorem dL_refusesAny_158 : decode cL_refusesAny 158 = .ok (.bipush 12, 2) := by decide +kernel
theorem dL_refusesAny_160 : decode cL_refusesAny 160 = .ok (.invokevirtual 13, 3) := by decide +kernel
theorem dL_refusesAny_163 : decode cL_refusesAny 163 = .ok (.invokevirtual 43, 3) := by decide +kernel
theorem dL_refusesAny_166 : decode cL_refusesAny 166 = .ok (.bipush (-5), 2) := by decide +kernel
