theorem dL_cell_0 : decode cL_cell 0 = .ok (.iload_n 1, 1) := by decide +kernel
theorem dL_cell_1 : decode cL_cell 1 = .ok (.aload_n 0, 1) := by decide +kernel
theorem dL_cell_2 : decode cL_cell 2 = .ok (.arraylength, 1) := by decide +kernel
theorem dL_cell_3 : decode cL_cell 3 = .ok (.if_icmp .ge 9, 3) := by decide +kernel
theorem dL_cell_6 : decode cL_cell 6 = .ok (.aload_n 0, 1) := by decide +kernel
theorem dL_cell_7 : decode cL_cell 7 = .ok (.iload_n 1, 1) := by decide +kernel
theorem dL_cell_8 : decode cL_cell 8 = .ok (.iaload, 1) := by decide +kernel
theorem dL_cell_9 : decode cL_cell 9 = .ok (.goto 11, 3) := by decide +kernel
theorem dL_cell_12 : decode cL_cell 12 = .ok (.ldc 7, 2) := by decide +kernel
theorem dL_cell_14 : decode cL_cell 14 = .ok (.iload_n 1, 1) := by decide +kernel
theorem dL_cell_15 : decode cL_cell 15 = .ok (.imul, 1) := by decide +kernel
theorem dL_cell_16 : decode cL_cell 16 = .ok (.sipush 1429, 3) := by decide +kernel
theorem dL_cell_19 : decode cL_cell 19 = .ok (.iadd, 1) := by decide +kernel
theorem dL_cell_20 : decode cL_cell 20 = .ok (.ireturn, 1) := by decide +kernel
theorem dL_low_0 : decode cL_low 0 = .ok (.iload_n 0, 1) := by decide +kernel
theorem dL_low_1 : decode cL_low 1 = .ok (.ldc 8, 2) := by decide +kernel
theorem dL_low_3 : decode cL_low 3 = .ok (.iand, 1) := by decide +kernel
theorem dL_low_4 : decode cL_low 4 = .ok (.iload_n 1, 1) := by decide +kernel
theorem dL_low_5 : decode cL_low 5 = .ok (.irem, 1) := by decide +kernel
theorem dL_low_6 : decode cL_low 6 = .ok (.ireturn, 1) := by decide +kernel
theorem dL_digest_0 : decode cL_digest 0 = .ok (.ldc2_w 9, 3) := by decide +kernel
theorem dL_digest_3 : decode cL_digest 3 = .ok (.lstore_n 1, 1) := by decide +kernel
theorem dL_digest_4 : decode cL_digest 4 = .ok (.iconst 0, 1) := by decide +kernel
theorem dL_digest_5 : decode cL_digest 5 = .ok (.istore_n 3, 1) := by decide +kernel
theorem dL_digest_6 : decode cL_digest 6 = .ok (.iload_n 3, 1) := by decide +kernel
theorem dL_digest_7 : decode cL_digest 7 = .ok (.bipush 18, 2) := by decide +kernel
theorem dL_digest_9 : decode cL_digest 9 = .ok (.if_icmp .ge 38, 3) := by decide +kernel
theorem dL_digest_12 : decode cL_digest 12 = .ok (.ldc2_w 11, 3) := by decide +kernel
theorem dL_digest_15 : decode cL_digest 15 = .ok (.lload_n 1, 1) := by decide +kernel
theorem dL_digest_16 : decode cL_digest 16 = .ok (.lmul, 1) := by decide +kernel
theorem dL_digest_17 : decode cL_digest 17 = .ok (.iload_n 3, 1) := by decide +kernel
theorem dL_digest_18 : decode cL_digest 18 = .ok (.bipush 15, 2) := by decide +kernel
theorem dL_digest_20 : decode cL_digest 20 = .ok (.if_icmp .eq 9, 3) := by decide +kernel
theorem dL_digest_23 : decode cL_digest 23 = .ok (.iload_n 3, 1) := by decide +kernel
theorem dL_digest_24 : decode cL_digest 24 = .ok (.bipush 16, 2) := by decide +kernel
theorem dL_digest_26 : decode cL_digest 26 = .ok (.if_icmp .ne 7, 3) := by decide +kernel
theorem dL_digest_29 : decode cL_digest 29 = .ok (.iconst 0, 1) := by decide +kernel
theorem dL_digest_30 : decode cL_digest 30 = .ok (.goto 8, 3) := by decide +kernel
theorem dL_digest_33 : decode cL_digest 33 = .ok (.aload_n 0, 1) := by decide +kernel
theorem dL_digest_34 : decode cL_digest 34 = .ok (.iload_n 3, 1) := by decide +kernel
theorem dL_digest_35 : decode cL_digest 35 = .ok (.invokevirtual 13, 3) := by decide +kernel
theorem dL_digest_38 : decode cL_digest 38 = .ok (.i2l, 1) := by decide +kernel
theorem dL_digest_39 : decode cL_digest 39 = .ok (.ladd, 1) := by decide +kernel
theorem dL_digest_40 : decode cL_digest 40 = .ok (.lstore_n 1, 1) := by decide +kernel
theorem dL_digest_41 : decode cL_digest 41 = .ok (.iinc 3 1, 3) := by decide +kernel
theorem dL_digest_44 : decode cL_digest 44 = .ok (.goto (-38), 3) := by decide +kernel
theorem dL_digest_47 : decode cL_digest 47 = .ok (.iconst 0, 1) := by decide +kernel
theorem dL_digest_48 : decode cL_digest 48 = .ok (.istore_n 3, 1) := by decide +kernel
theorem dL_digest_49 : decode cL_digest 49 = .ok (.iload_n 3, 1) := by decide +kernel
theorem dL_digest_50 : decode cL_digest 50 = .ok (.bipush 6, 2) := by decide +kernel
theorem dL_digest_52 : decode cL_digest 52 = .ok (.if_icmp .ge 21, 3) := by decide +kernel
theorem dL_digest_55 : decode cL_digest 55 = .ok (.ldc2_w 11, 3) := by decide +kernel
theorem dL_digest_58 : decode cL_digest 58 = .ok (.lload_n 1, 1) := by decide +kernel
theorem dL_digest_59 : decode cL_digest 59 = .ok (.lmul, 1) := by decide +kernel
theorem dL_digest_60 : decode cL_digest 60 = .ok (.aload_n 0, 1) := by decide +kernel
theorem dL_digest_61 : decode cL_digest 61 = .ok (.iload_n 3, 1) := by decide +kernel
theorem dL_digest_62 : decode cL_digest 62 = .ok (.invokevirtual 19, 3) := by decide +kernel
theorem dL_digest_65 : decode cL_digest 65 = .ok (.ladd, 1) := by decide +kernel
theorem dL_digest_66 : decode cL_digest 66 = .ok (.lstore_n 1, 1) := by decide +kernel
theorem dL_digest_67 : decode cL_digest 67 = .ok (.iinc 3 1, 3) := by decide +kernel
theorem dL_digest_70 : decode cL_digest 70 = .ok (.goto (-21), 3) := by decide +kernel
theorem dL_digest_73 : decode cL_digest 73 = .ok (.iconst 0, 1) := by decide +kernel
theorem dL_digest_74 : decode cL_digest 74 = .ok (.istore_n 3, 1) := by decide +kernel
theorem dL_digest_75 : decode cL_digest 75 = .ok (.iload_n 3, 1) := by decide +kernel
theorem dL_digest_76 : decode cL_digest 76 = .ok (.aload_n 0, 1) := by decide +kernel
theorem dL_digest_77 : decode cL_digest 77 = .ok (.bipush 11, 2) := by decide +kernel
theorem dL_digest_79 : decode cL_digest 79 = .ok (.invokevirtual 13, 3) := by decide +kernel
theorem dL_digest_82 : decode cL_digest 82 = .ok (.if_icmp .ge 40, 3) := by decide +kernel
theorem dL_digest_85 : decode cL_digest 85 = .ok (.iconst 0, 1) := by decide +kernel
theorem dL_digest_86 : decode cL_digest 86 = .ok (.istore 4, 2) := by decide +kernel
theorem dL_digest_88 : decode cL_digest 88 = .ok (.iload 4, 2) := by decide +kernel
theorem dL_digest_90 : decode cL_digest 90 = .ok (.bipush 6, 2) := by decide +kernel
theorem dL_digest_92 : decode cL_digest 92 = .ok (.if_icmp .ge 24, 3) := by decide +kernel
theorem dL_digest_95 : decode cL_digest 95 = .ok (.ldc2_w 11, 3) := by decide +kernel
theorem dL_digest_98 : decode cL_digest 98 = .ok (.lload_n 1, 1) := by decide +kernel
theorem dL_digest_99 : decode cL_digest 99 = .ok (.lmul, 1) := by decide +kernel
theorem dL_digest_100 : decode cL_digest 100 = .ok (.aload_n 0, 1) := by decide +kernel
theorem dL_digest_101 : decode cL_digest 101 = .ok (.iload_n 3, 1) := by decide +kernel
theorem dL_digest_102 : decode cL_digest 102 = .ok (.iload 4, 2) := by decide +kernel
theorem dL_digest_104 : decode cL_digest 104 = .ok (.invokevirtual 23, 3) := by decide +kernel
theorem dL_digest_107 : decode cL_digest 107 = .ok (.i2l, 1) := by decide +kernel
theorem dL_digest_108 : decode cL_digest 108 = .ok (.ladd, 1) := by decide +kernel
theorem dL_digest_109 : decode cL_digest 109 = .ok (.lstore_n 1, 1) := by decide +kernel
theorem dL_digest_110 : decode cL_digest 110 = .ok (.iinc 4 1, 3) := by decide +kernel
theorem dL_digest_113 : decode cL_digest 113 = .ok (.goto (-25), 3) := by decide +kernel
theorem dL_digest_116 : decode cL_digest 116 = .ok (.iinc 3 1, 3) := by decide +kernel
theorem dL_digest_119 : decode cL_digest 119 = .ok (.goto (-44), 3) := by decide +kernel
theorem dL_digest_122 : decode cL_digest 122 = .ok (.iconst 0, 1) := by decide +kernel
theorem dL_digest_123 : decode cL_digest 123 = .ok (.istore_n 3, 1) := by decide +kernel
theorem dL_digest_124 : decode cL_digest 124 = .ok (.iload_n 3, 1) := by decide +kernel
theorem dL_digest_125 : decode cL_digest 125 = .ok (.aload_n 0, 1) := by decide +kernel
theorem dL_digest_126 : decode cL_digest 126 = .ok (.bipush 14, 2) := by decide +kernel
theorem dL_digest_128 : decode cL_digest 128 = .ok (.invokevirtual 13, 3) := by decide +kernel
theorem dL_digest_131 : decode cL_digest 131 = .ok (.if_icmp .ge 39, 3) := by decide +kernel
theorem dL_digest_134 : decode cL_digest 134 = .ok (.iconst 0, 1) := by decide +kernel
theorem dL_digest_135 : decode cL_digest 135 = .ok (.istore 4, 2) := by decide +kernel
theorem dL_digest_137 : decode cL_digest 137 = .ok (.iload 4, 2) := by decide +kernel
theorem dL_digest_139 : decode cL_digest 139 = .ok (.iconst 5, 1) := by decide +kernel
theorem dL_digest_140 : decode cL_digest 140 = .ok (.if_icmp .ge 24, 3) := by decide +kernel
theorem dL_digest_143 : decode cL_digest 143 = .ok (.ldc2_w 11, 3) := by decide +kernel
theorem dL_digest_146 : decode cL_digest 146 = .ok (.lload_n 1, 1) := by decide +kernel
theorem dL_digest_147 : decode cL_digest 147 = .ok (.lmul, 1) := by decide +kernel
theorem dL_digest_148 : decode cL_digest 148 = .ok (.aload_n 0, 1) := by decide +kernel
theorem dL_digest_149 : decode cL_digest 149 = .ok (.iload_n 3, 1) := by decide +kernel
theorem dL_digest_150 : decode cL_digest 150 = .ok (.iload 4, 2) := by decide +kernel
theorem dL_digest_152 : decode cL_digest 152 = .ok (.invokevirtual 27, 3) := by decide +kernel
theorem dL_digest_155 : decode cL_digest 155 = .ok (.i2l, 1) := by decide +kernel
theorem dL_digest_156 : decode cL_digest 156 = .ok (.ladd, 1) := by decide +kernel
theorem dL_digest_157 : decode cL_digest 157 = .ok (.lstore_n 1, 1) := by decide +kernel
theorem dL_digest_158 : decode cL_digest 158 = .ok (.iinc 4 1, 3) := by decide +kernel
theorem dL_digest_161 : decode cL_digest 161 = .ok (.goto (-24), 3) := by decide +kernel
theorem dL_digest_164 : decode cL_digest 164 = .ok (.iinc 3 1, 3) := by decide +kernel
theorem dL_digest_167 : decode cL_digest 167 = .ok (.goto (-43), 3) := by decide +kernel
theorem dL_digest_170 : decode cL_digest 170 = .ok (.iconst 0, 1) := by decide +kernel
theorem dL_digest_171 : decode cL_digest 171 = .ok (.istore_n 3, 1) := by decide +kernel
theorem dL_digest_172 : decode cL_digest 172 = .ok (.iload_n 3, 1) := by decide +kernel
theorem dL_digest_173 : decode cL_digest 173 = .ok (.bipush 24, 2) := by decide +kernel
theorem dL_digest_175 : decode cL_digest 175 = .ok (.if_icmp .ge 21, 3) := by decide +kernel
theorem dL_digest_178 : decode cL_digest 178 = .ok (.ldc2_w 11, 3) := by decide +kernel
theorem dL_digest_181 : decode cL_digest 181 = .ok (.lload_n 1, 1) := by decide +kernel
theorem dL_digest_182 : decode cL_digest 182 = .ok (.lmul, 1) := by decide +kernel
theorem dL_digest_183 : decode cL_digest 183 = .ok (.aload_n 0, 1) := by decide +kernel
theorem dL_digest_184 : decode cL_digest 184 = .ok (.iload_n 3, 1) := by decide +kernel
theorem dL_digest_185 : decode cL_digest 185 = .ok (.invokevirtual 30, 3) := by decide +kernel
theorem dL_digest_188 : decode cL_digest 188 = .ok (.ladd, 1) := by decide +kernel
theorem dL_digest_189 : decode cL_digest 189 = .ok (.lstore_n 1, 1) := by decide +kernel
theorem dL_digest_190 : decode cL_digest 190 = .ok (.iinc 3 1, 3) := by decide +kernel
theorem dL_digest_193 : decode cL_digest 193 = .ok (.goto (-21), 3) := by decide +kernel
theorem dL_digest_196 : decode cL_digest 196 = .ok (.ldc2_w 11, 3) := by decide +kernel
theorem dL_digest_199 : decode cL_digest 199 = .ok (.lload_n 1, 1) := by decide +kernel
theorem dL_digest_200 : decode cL_digest 200 = .ok (.lmul, 1) := by decide +kernel
theorem dL_digest_201 : decode cL_digest 201 = .ok (.aload_n 0, 1) := by decide +kernel
theorem dL_digest_202 : decode cL_digest 202 = .ok (.invokevirtual 33, 3) := by decide +kernel
theorem dL_digest_205 : decode cL_digest 205 = .ok (.i2l, 1) := by decide +kernel
theorem dL_digest_206 : decode cL_digest 206 = .ok (.ladd, 1) := by decide +kernel
theorem dL_digest_207 : decode cL_digest 207 = .ok (.lreturn, 1) := by decide +kernel
theorem dL_sections_0 : decode cL_sections 0 = .ok (.bipush (-5), 2) := by decide +kernel
theorem dL_sections_2 : decode cL_sections 2 = .ok (.istore_n 1, 1) := by decide +kernel
theorem dL_sections_3 : decode cL_sections 3 = .ok (.iconst 0, 1) := by decide +kernel
theorem dL_sections_4 : decode cL_sections 4 = .ok (.istore_n 2, 1) := by decide +kernel
theorem dL_sections_5 : decode cL_sections 5 = .ok (.iconst 0, 1) := by decide +kernel
theorem dL_sections_6 : decode cL_sections 6 = .ok (.istore_n 3, 1) := by decide +kernel
theorem dL_sections_7 : decode cL_sections 7 = .ok (.iconst 0, 1) := by decide +kernel
theorem dL_sections_8 : decode cL_sections 8 = .ok (.istore 4, 2) := by decide +kernel
theorem dL_sections_10 : decode cL_sections 10 = .ok (.iconst 0, 1) := by decide +kernel
theorem dL_sections_11 : decode cL_sections 11 = .ok (.istore 5, 2) := by decide +kernel
theorem dL_sections_13 : decode cL_sections 13 = .ok (.iload 5, 2) := by decide +kernel
theorem dL_sections_15 : decode cL_sections 15 = .ok (.aload_n 0, 1) := by decide +kernel
theorem dL_sections_16 : decode cL_sections 16 = .ok (.bipush 11, 2) := by decide +kernel
theorem dL_sections_18 : decode cL_sections 18 = .ok (.invokevirtual 13, 3) := by decide +kernel
theorem dL_sections_21 : decode cL_sections 21 = .ok (.if_icmp .ge 218, 3) := by decide +kernel
theorem dL_sections_24 : decode cL_sections 24 = .ok (.aload_n 0, 1) := by decide +kernel
theorem dL_sections_25 : decode cL_sections 25 = .ok (.iload 5, 2) := by decide +kernel
theorem dL_sections_27 : decode cL_sections 27 = .ok (.iconst 3, 1) := by decide +kernel
theorem dL_sections_28 : decode cL_sections 28 = .ok (.invokevirtual 23, 3) := by decide +kernel
theorem dL_sections_31 : decode cL_sections 31 = .ok (.istore 6, 2) := by decide +kernel
theorem dL_sections_33 : decode cL_sections 33 = .ok (.aload_n 0, 1) := by decide +kernel
theorem dL_sections_34 : decode cL_sections 34 = .ok (.iload 5, 2) := by decide +kernel
theorem dL_sections_36 : decode cL_sections 36 = .ok (.iconst 4, 1) := by decide +kernel
theorem dL_sections_37 : decode cL_sections 37 = .ok (.invokevirtual 23, 3) := by decide +kernel
theorem dL_sections_40 : decode cL_sections 40 = .ok (.istore 7, 2) := by decide +kernel
theorem dL_sections_42 : decode cL_sections 42 = .ok (.iload 6, 2) := by decide +kernel
theorem dL_sections_44 : decode cL_sections 44 = .ok (.iconst 1, 1) := by decide +kernel
theorem dL_sections_45 : decode cL_sections 45 = .ok (.if_icmp .eq 9, 3) := by decide +kernel
theorem dL_sections_48 : decode cL_sections 48 = .ok (.iload 6, 2) := by decide +kernel
theorem dL_sections_50 : decode cL_sections 50 = .ok (.iconst 3, 1) := by decide +kernel
theorem dL_sections_51 : decode cL_sections 51 = .ok (.if_icmp .ne 7, 3) := by decide +kernel
theorem dL_sections_54 : decode cL_sections 54 = .ok (.iconst 1, 1) := by decide +kernel
theorem dL_sections_55 : decode cL_sections 55 = .ok (.goto 4, 3) := by decide +kernel
theorem dL_sections_58 : decode cL_sections 58 = .ok (.iconst 0, 1) := by decide +kernel
theorem dL_sections_59 : decode cL_sections 59 = .ok (.istore 8, 2) := by decide +kernel
theorem dL_sections_61 : decode cL_sections 61 = .ok (.iload 8, 2) := by decide +kernel
theorem dL_sections_63 : decode cL_sections 63 = .ok (.ifCond .eq 12, 3) := by decide +kernel
theorem dL_sections_66 : decode cL_sections 66 = .ok (.iload_n 1, 1) := by decide +kernel
theorem dL_sections_67 : decode cL_sections 67 = .ok (.ifCond .lt 5, 3) := by decide +kernel
theorem dL_sections_70 : decode cL_sections 70 = .ok (.iconst 0, 1) := by decide +kernel
theorem dL_sections_71 : decode cL_sections 71 = .ok (.ireturn, 1) := by decide +kernel
theorem dL_sections_72 : decode cL_sections 72 = .ok (.iload 5, 2) := by decide +kernel
theorem dL_sections_74 : decode cL_sections 74 = .ok (.istore_n 1, 1) := by decide +kernel
theorem dL_sections_75 : decode cL_sections 75 = .ok (.iload_n 2, 1) := by decide +kernel
theorem dL_sections_76 : decode cL_sections 76 = .ok (.iload 6, 2) := by decide +kernel
theorem dL_sections_78 : decode cL_sections 78 = .ok (.iconst 2, 1) := by decide +kernel
theorem dL_sections_79 : decode cL_sections 79 = .ok (.if_icmp .ne 7, 3) := by decide +kernel
theorem dL_sections_82 : decode cL_sections 82 = .ok (.iconst 1, 1) := by decide +kernel
theorem dL_sections_83 : decode cL_sections 83 = .ok (.goto 4, 3) := by decide +kernel
theorem dL_sections_86 : decode cL_sections 86 = .ok (.iconst 0, 1) := by decide +kernel
theorem dL_sections_87 : decode cL_sections 87 = .ok (.iadd, 1) := by decide +kernel
theorem dL_sections_88 : decode cL_sections 88 = .ok (.istore_n 2, 1) := by decide +kernel
theorem dL_sections_89 : decode cL_sections 89 = .ok (.iload_n 3, 1) := by decide +kernel
theorem dL_sections_90 : decode cL_sections 90 = .ok (.iload 6, 2) := by decide +kernel
theorem dL_sections_92 : decode cL_sections 92 = .ok (.iconst 4, 1) := by decide +kernel
theorem dL_sections_93 : decode cL_sections 93 = .ok (.if_icmp .ne 7, 3) := by decide +kernel
theorem dL_sections_96 : decode cL_sections 96 = .ok (.iconst 1, 1) := by decide +kernel
theorem dL_sections_97 : decode cL_sections 97 = .ok (.goto 4, 3) := by decide +kernel
theorem dL_sections_100 : decode cL_sections 100 = .ok (.iconst 0, 1) := by decide +kernel
theorem dL_sections_101 : decode cL_sections 101 = .ok (.iadd, 1) := by decide +kernel
theorem dL_sections_102 : decode cL_sections 102 = .ok (.istore_n 3, 1) := by decide +kernel
theorem dL_sections_103 : decode cL_sections 103 = .ok (.iload 4, 2) := by decide +kernel
theorem dL_sections_105 : decode cL_sections 105 = .ok (.iload 8, 2) := by decide +kernel
theorem dL_sections_107 : decode cL_sections 107 = .ok (.ifCond .ne 8, 3) := by decide +kernel
theorem dL_sections_110 : decode cL_sections 110 = .ok (.iload 6, 2) := by decide +kernel
theorem dL_sections_112 : decode cL_sections 112 = .ok (.ifCond .ne 7, 3) := by decide +kernel
theorem dL_sections_115 : decode cL_sections 115 = .ok (.iconst 1, 1) := by decide +kernel
theorem dL_sections_116 : decode cL_sections 116 = .ok (.goto 4, 3) := by decide +kernel
theorem dL_sections_119 : decode cL_sections 119 = .ok (.iconst 0, 1) := by decide +kernel
theorem dL_sections_120 : decode cL_sections 120 = .ok (.iadd, 1) := by decide +kernel
theorem dL_sections_121 : decode cL_sections 121 = .ok (.istore 4, 2) := by decide +kernel
theorem dL_sections_123 : decode cL_sections 123 = .ok (.iload 8, 2) := by decide +kernel
theorem dL_sections_125 : decode cL_sections 125 = .ok (.iload 7, 2) := by decide +kernel
theorem dL_sections_127 : decode cL_sections 127 = .ok (.ifCond .le 7, 3) := by decide +kernel
theorem dL_sections_130 : decode cL_sections 130 = .ok (.iconst 1, 1) := by decide +kernel
theorem dL_sections_131 : decode cL_sections 131 = .ok (.goto 4, 3) := by decide +kernel
theorem dL_sections_134 : decode cL_sections 134 = .ok (.iconst 0, 1) := by decide +kernel
theorem dL_sections_135 : decode cL_sections 135 = .ok (.if_icmp .ne 96, 3) := by decide +kernel
theorem dL_sections_138 : decode cL_sections 138 = .ok (.iload 8, 2) := by decide +kernel
theorem dL_sections_140 : decode cL_sections 140 = .ok (.ifCond .ne 10, 3) := by decide +kernel
theorem dL_sections_143 : decode cL_sections 143 = .ok (.iload 7, 2) := by decide +kernel
theorem dL_sections_145 : decode cL_sections 145 = .ok (.bipush (-5), 2) := by decide +kernel
theorem dL_sections_147 : decode cL_sections 147 = .ok (.if_icmp .ne 84, 3) := by decide +kernel
theorem dL_sections_150 : decode cL_sections 150 = .ok (.iload 7, 2) := by decide +kernel
theorem dL_sections_152 : decode cL_sections 152 = .ok (.aload_n 0, 1) := by decide +kernel
theorem dL_sections_153 : decode cL_sections 153 = .ok (.iload 5, 2) := by decide +kernel
theorem dL_sections_155 : decode cL_sections 155 = .ok (.iconst 1, 1) := by decide +kernel
theorem dL_sections_156 : decode cL_sections 156 = .ok (.invokevirtual 23, 3) := by decide +kernel
theorem dL_sections_159 : decode cL_sections 159 = .ok (.if_icmp .gt 72, 3) := by decide +kernel
theorem dL_sections_162 : decode cL_sections 162 = .ok (.aload_n 0, 1) := by decide +kernel
theorem dL_sections_163 : decode cL_sections 163 = .ok (.iload 5, 2) := by decide +kernel
theorem dL_sections_165 : decode cL_sections 165 = .ok (.iconst 5, 1) := by decide +kernel
theorem dL_sections_166 : decode cL_sections 166 = .ok (.invokevirtual 23, 3) := by decide +kernel
theorem dL_sections_169 : decode cL_sections 169 = .ok (.aload_n 0, 1) := by decide +kernel
theorem dL_sections_170 : decode cL_sections 170 = .ok (.iload 5, 2) := by decide +kernel
theorem dL_sections_172 : decode cL_sections 172 = .ok (.iconst 2, 1) := by decide +kernel
theorem dL_sections_173 : decode cL_sections 173 = .ok (.invokevirtual 23, 3) := by decide +kernel
theorem dL_sections_176 : decode cL_sections 176 = .ok (.if_icmp .gt 55, 3) := by decide +kernel
theorem dL_sections_179 : decode cL_sections 179 = .ok (.iload 6, 2) := by decide +kernel
theorem dL_sections_181 : decode cL_sections 181 = .ok (.iconst 4, 1) := by decide +kernel
theorem dL_sections_182 : decode cL_sections 182 = .ok (.if_icmp .ne 20, 3) := by decide +kernel
theorem dL_sections_185 : decode cL_sections 185 = .ok (.aload_n 0, 1) := by decide +kernel
theorem dL_sections_186 : decode cL_sections 186 = .ok (.iload 5, 2) := by decide +kernel
theorem dL_sections_188 : decode cL_sections 188 = .ok (.iconst 5, 1) := by decide +kernel
theorem dL_sections_189 : decode cL_sections 189 = .ok (.invokevirtual 23, 3) := by decide +kernel
theorem dL_sections_192 : decode cL_sections 192 = .ok (.aload_n 0, 1) := by decide +kernel
theorem dL_sections_193 : decode cL_sections 193 = .ok (.iload 5, 2) := by decide +kernel
theorem dL_sections_195 : decode cL_sections 195 = .ok (.iconst 2, 1) := by decide +kernel
theorem dL_sections_196 : decode cL_sections 196 = .ok (.invokevirtual 23, 3) := by decide +kernel
theorem dL_sections_199 : decode cL_sections 199 = .ok (.if_icmp .lt 32, 3) := by decide +kernel
theorem dL_sections_202 : decode cL_sections 202 = .ok (.iload 6, 2) := by decide +kernel
theorem dL_sections_204 : decode cL_sections 204 = .ok (.iconst 2, 1) := by decide +kernel
theorem dL_sections_205 : decode cL_sections 205 = .ok (.if_icmp .ne 13, 3) := by decide +kernel
theorem dL_sections_208 : decode cL_sections 208 = .ok (.aload_n 0, 1) := by decide +kernel
theorem dL_sections_209 : decode cL_sections 209 = .ok (.iload 5, 2) := by decide +kernel
theorem dL_sections_211 : decode cL_sections 211 = .ok (.iconst 5, 1) := by decide +kernel
theorem dL_sections_212 : decode cL_sections 212 = .ok (.invokevirtual 23, 3) := by decide +kernel
theorem dL_sections_215 : decode cL_sections 215 = .ok (.ifCond .eq 16, 3) := by decide +kernel
theorem dL_sections_218 : decode cL_sections 218 = .ok (.aload_n 0, 1) := by decide +kernel
theorem dL_sections_219 : decode cL_sections 219 = .ok (.iload 5, 2) := by decide +kernel
theorem dL_sections_221 : decode cL_sections 221 = .ok (.bipush 6, 2) := by decide +kernel
theorem dL_sections_223 : decode cL_sections 223 = .ok (.invokevirtual 23, 3) := by decide +kernel
theorem dL_sections_226 : decode cL_sections 226 = .ok (.bipush (-2), 2) := by decide +kernel
theorem dL_sections_228 : decode cL_sections 228 = .ok (.if_icmp .eq 5, 3) := by decide +kernel
theorem dL_sections_231 : decode cL_sections 231 = .ok (.iconst 0, 1) := by decide +kernel
theorem dL_sections_232 : decode cL_sections 232 = .ok (.ireturn, 1) := by decide +kernel
theorem dL_sections_233 : decode cL_sections 233 = .ok (.iinc 5 1, 3) := by decide +kernel
theorem dL_sections_236 : decode cL_sections 236 = .ok (.goto (-223), 3) := by decide +kernel
theorem dL_sections_239 : decode cL_sections 239 = .ok (.aload_n 0, 1) := by decide +kernel
theorem dL_sections_240 : decode cL_sections 240 = .ok (.iconst 2, 1) := by decide +kernel
theorem dL_sections_241 : decode cL_sections 241 = .ok (.invokevirtual 13, 3) := by decide +kernel
theorem dL_sections_244 : decode cL_sections 244 = .ok (.iload_n 1, 1) := by decide +kernel
theorem dL_sections_245 : decode cL_sections 245 = .ok (.if_icmp .ne 76, 3) := by decide +kernel
theorem dL_sections_248 : decode cL_sections 248 = .ok (.aload_n 0, 1) := by decide +kernel
theorem dL_sections_249 : decode cL_sections 249 = .ok (.iconst 3, 1) := by decide +kernel
theorem dL_sections_250 : decode cL_sections 250 = .ok (.invokevirtual 13, 3) := by decide +kernel
theorem dL_sections_253 : decode cL_sections 253 = .ok (.iload_n 2, 1) := by decide +kernel
theorem dL_sections_254 : decode cL_sections 254 = .ok (.if_icmp .ne 67, 3) := by decide +kernel
theorem dL_sections_257 : decode cL_sections 257 = .ok (.aload_n 0, 1) := by decide +kernel
theorem dL_sections_258 : decode cL_sections 258 = .ok (.iconst 4, 1) := by decide +kernel
theorem dL_sections_259 : decode cL_sections 259 = .ok (.invokevirtual 13, 3) := by decide +kernel
theorem dL_sections_262 : decode cL_sections 262 = .ok (.iload_n 3, 1) := by decide +kernel
theorem dL_sections_263 : decode cL_sections 263 = .ok (.if_icmp .ne 58, 3) := by decide +kernel
theorem dL_sections_266 : decode cL_sections 266 = .ok (.aload_n 0, 1) := by decide +kernel
theorem dL_sections_267 : decode cL_sections 267 = .ok (.invokevirtual 33, 3) := by decide +kernel
theorem dL_sections_270 : decode cL_sections 270 = .ok (.ifCond .ne 7, 3) := by decide +kernel
theorem dL_sections_273 : decode cL_sections 273 = .ok (.iconst 1, 1) := by decide +kernel
theorem dL_sections_274 : decode cL_sections 274 = .ok (.goto 4, 3) := by decide +kernel
theorem dL_sections_277 : decode cL_sections 277 = .ok (.iconst 0, 1) := by decide +kernel
theorem dL_sections_278 : decode cL_sections 278 = .ok (.iload 4, 2) := by decide +kernel
theorem dL_sections_280 : decode cL_sections 280 = .ok (.ifCond .ne 7, 3) := by decide +kernel
theorem dL_sections_283 : decode cL_sections 283 = .ok (.iconst 1, 1) := by decide +kernel
theorem dL_sections_284 : decode cL_sections 284 = .ok (.goto 4, 3) := by decide +kernel
theorem dL_sections_287 : decode cL_sections 287 = .ok (.iconst 0, 1) := by decide +kernel
theorem dL_sections_288 : decode cL_sections 288 = .ok (.if_icmp .ne 33, 3) := by decide +kernel
theorem dL_sections_291 : decode cL_sections 291 = .ok (.aload_n 0, 1) := by decide +kernel
theorem dL_sections_292 : decode cL_sections 292 = .ok (.aload_n 0, 1) := by decide +kernel
theorem dL_sections_293 : decode cL_sections 293 = .ok (.bipush 11, 2) := by decide +kernel
theorem dL_sections_295 : decode cL_sections 295 = .ok (.invokevirtual 13, 3) := by decide +kernel
theorem dL_sections_298 : decode cL_sections 298 = .ok (.iconst 0, 1) := by decide +kernel
theorem dL_sections_299 : decode cL_sections 299 = .ok (.invokevirtual 23, 3) := by decide +kernel
theorem dL_sections_302 : decode cL_sections 302 = .ok (.iconst (-1), 1) := by decide +kernel
theorem dL_sections_303 : decode cL_sections 303 = .ok (.if_icmp .ne 18, 3) := by decide +kernel
theorem dL_sections_306 : decode cL_sections 306 = .ok (.aload_n 0, 1) := by decide +kernel
theorem dL_sections_307 : decode cL_sections 307 = .ok (.bipush 18, 2) := by decide +kernel
theorem dL_sections_309 : decode cL_sections 309 = .ok (.invokevirtual 13, 3) := by decide +kernel
theorem dL_sections_312 : decode cL_sections 312 = .ok (.bipush (-2), 2) := by decide +kernel
theorem dL_sections_314 : decode cL_sections 314 = .ok (.if_icmp .ne 7, 3) := by decide +kernel
theorem dL_sections_317 : decode cL_sections 317 = .ok (.iconst 1, 1) := by decide +kernel
theorem dL_sections_318 : decode cL_sections 318 = .ok (.goto 4, 3) := by decide +kernel
theorem dL_sections_321 : decode cL_sections 321 = .ok (.iconst 0, 1) := by decide +kernel
theorem dL_sections_322 : decode cL_sections 322 = .ok (.ireturn, 1) := by decide +kernel
theorem dL_waters_0 : decode cL_waters 0 = .ok (.aload_n 0, 1) := by decide +kernel
theorem dL_waters_1 : decode cL_waters 1 = .ok (.iconst 1, 1) := by decide +kernel
theorem dL_waters_2 : decode cL_waters 2 = .ok (.invokevirtual 19, 3) := by decide +kernel
theorem dL_waters_5 : decode cL_waters 5 = .ok (.aload_n 0, 1) := by decide +kernel
theorem dL_waters_6 : decode cL_waters 6 = .ok (.iconst 2, 1) := by decide +kernel
theorem dL_waters_7 : decode cL_waters 7 = .ok (.invokevirtual 19, 3) := by decide +kernel
theorem dL_waters_10 : decode cL_waters 10 = .ok (.lsub, 1) := by decide +kernel
theorem dL_waters_11 : decode cL_waters 11 = .ok (.aload_n 0, 1) := by decide +kernel
theorem dL_waters_12 : decode cL_waters 12 = .ok (.iconst 3, 1) := by decide +kernel
theorem dL_waters_13 : decode cL_waters 13 = .ok (.invokevirtual 19, 3) := by decide +kernel
theorem dL_waters_16 : decode cL_waters 16 = .ok (.ladd, 1) := by decide +kernel
theorem dL_waters_17 : decode cL_waters 17 = .ok (.aload_n 0, 1) := by decide +kernel
theorem dL_waters_18 : decode cL_waters 18 = .ok (.iconst 4, 1) := by decide +kernel
theorem dL_waters_19 : decode cL_waters 19 = .ok (.invokevirtual 19, 3) := by decide +kernel
theorem dL_waters_22 : decode cL_waters 22 = .ok (.ladd, 1) := by decide +kernel
theorem dL_waters_23 : decode cL_waters 23 = .ok (.aload_n 0, 1) := by decide +kernel
theorem dL_waters_24 : decode cL_waters 24 = .ok (.iconst 5, 1) := by decide +kernel
theorem dL_waters_25 : decode cL_waters 25 = .ok (.invokevirtual 19, 3) := by decide +kernel
theorem dL_waters_28 : decode cL_waters 28 = .ok (.lsub, 1) := by decide +kernel
theorem dL_waters_29 : decode cL_waters 29 = .ok (.lstore_n 1, 1) := by decide +kernel
theorem dL_waters_30 : decode cL_waters 30 = .ok (.aload_n 0, 1) := by decide +kernel
theorem dL_waters_31 : decode cL_waters 31 = .ok (.iconst 0, 1) := by decide +kernel
theorem dL_waters_32 : decode cL_waters 32 = .ok (.invokevirtual 19, 3) := by decide +kernel
theorem dL_waters_35 : decode cL_waters 35 = .ok (.l2d, 1) := by decide +kernel
theorem dL_waters_36 : decode cL_waters 36 = .ok (.aload_n 0, 1) := by decide +kernel
theorem dL_waters_37 : decode cL_waters 37 = .ok (.bipush 9, 2) := by decide +kernel
theorem dL_waters_39 : decode cL_waters 39 = .ok (.invokevirtual 13, 3) := by decide +kernel
theorem dL_waters_42 : decode cL_waters 42 = .ok (.i2d, 1) := by decide +kernel
theorem dL_waters_43 : decode cL_waters 43 = .ok (.ddiv, 1) := by decide +kernel
theorem dL_waters_44 : decode cL_waters 44 = .ok (.dstore_n 3, 1) := by decide +kernel
theorem dL_waters_45 : decode cL_waters 45 = .ok (.aload_n 0, 1) := by decide +kernel
theorem dL_waters_46 : decode cL_waters 46 = .ok (.iconst 3, 1) := by decide +kernel
theorem dL_waters_47 : decode cL_waters 47 = .ok (.invokevirtual 37, 3) := by decide +kernel
theorem dL_waters_50 : decode cL_waters 50 = .ok (.dstore 5, 2) := by decide +kernel
theorem dL_waters_52 : decode cL_waters 52 = .ok (.aload_n 0, 1) := by decide +kernel
theorem dL_waters_53 : decode cL_waters 53 = .ok (.bipush 49, 2) := by decide +kernel
theorem dL_waters_55 : decode cL_waters 55 = .ok (.invokevirtual 41, 3) := by decide +kernel
theorem dL_waters_58 : decode cL_waters 58 = .ok (.dstore 7, 2) := by decide +kernel
theorem dL_waters_60 : decode cL_waters 60 = .ok (.iconst 0, 1) := by decide +kernel
theorem dL_waters_61 : decode cL_waters 61 = .ok (.istore 9, 2) := by decide +kernel
theorem dL_waters_63 : decode cL_waters 63 = .ok (.iconst 0, 1) := by decide +kernel
theorem dL_waters_64 : decode cL_waters 64 = .ok (.istore 10, 2) := by decide +kernel
theorem dL_waters_66 : decode cL_waters 66 = .ok (.iload 10, 2) := by decide +kernel
theorem dL_waters_68 : decode cL_waters 68 = .ok (.aload_n 0, 1) := by decide +kernel
theorem dL_waters_69 : decode cL_waters 69 = .ok (.bipush 14, 2) := by decide +kernel
theorem dL_waters_71 : decode cL_waters 71 = .ok (.invokevirtual 13, 3) := by decide +kernel
theorem dL_waters_74 : decode cL_waters 74 = .ok (.if_icmp .ge 104, 3) := by decide +kernel
theorem dL_waters_77 : decode cL_waters 77 = .ok (.aload_n 0, 1) := by decide +kernel
theorem dL_waters_78 : decode cL_waters 78 = .ok (.iload 10, 2) := by decide +kernel
theorem dL_waters_80 : decode cL_waters 80 = .ok (.iconst 2, 1) := by decide +kernel
theorem dL_waters_81 : decode cL_waters 81 = .ok (.invokevirtual 27, 3) := by decide +kernel
theorem dL_waters_84 : decode cL_waters 84 = .ok (.iconst 1, 1) := by decide +kernel
theorem dL_waters_85 : decode cL_waters 85 = .ok (.if_icmp .ne 26, 3) := by decide +kernel
theorem dL_waters_88 : decode cL_waters 88 = .ok (.iload 9, 2) := by decide +kernel
theorem dL_waters_90 : decode cL_waters 90 = .ok (.aload_n 0, 1) := by decide +kernel
theorem dL_waters_91 : decode cL_waters 91 = .ok (.iload 10, 2) := by decide +kernel
theorem dL_waters_93 : decode cL_waters 93 = .ok (.iconst 0, 1) := by decide +kernel
theorem dL_waters_94 : decode cL_waters 94 = .ok (.invokevirtual 27, 3) := by decide +kernel
theorem dL_waters_97 : decode cL_waters 97 = .ok (.iadd, 1) := by decide +kernel
theorem dL_waters_98 : decode cL_waters 98 = .ok (.aload_n 0, 1) := by decide +kernel
theorem dL_waters_99 : decode cL_waters 99 = .ok (.bipush 10, 2) := by decide +kernel
theorem dL_waters_101 : decode cL_waters 101 = .ok (.invokevirtual 13, 3) := by decide +kernel
theorem dL_waters_104 : decode cL_waters 104 = .ok (.if_icmp .gt 7, 3) := by decide +kernel
theorem dL_waters_107 : decode cL_waters 107 = .ok (.iconst 1, 1) := by decide +kernel
theorem dL_waters_108 : decode cL_waters 108 = .ok (.goto 4, 3) := by decide +kernel
theorem dL_waters_111 : decode cL_waters 111 = .ok (.iconst 0, 1) := by decide +kernel
theorem dL_waters_112 : decode cL_waters 112 = .ok (.istore 11, 2) := by decide +kernel
theorem dL_waters_114 : decode cL_waters 114 = .ok (.iload 9, 2) := by decide +kernel
theorem dL_waters_116 : decode cL_waters 116 = .ok (.iload 11, 2) := by decide +kernel
theorem dL_waters_118 : decode cL_waters 118 = .ok (.ifCond .eq 13, 3) := by decide +kernel
theorem dL_waters_121 : decode cL_waters 121 = .ok (.aload_n 0, 1) := by decide +kernel
theorem dL_waters_122 : decode cL_waters 122 = .ok (.iload 10, 2) := by decide +kernel
theorem dL_waters_124 : decode cL_waters 124 = .ok (.iconst 0, 1) := by decide +kernel
theorem dL_waters_125 : decode cL_waters 125 = .ok (.invokevirtual 27, 3) := by decide +kernel
theorem dL_waters_128 : decode cL_waters 128 = .ok (.goto 4, 3) := by decide +kernel
theorem dL_waters_131 : decode cL_waters 131 = .ok (.iconst 0, 1) := by decide +kernel
theorem dL_waters_132 : decode cL_waters 132 = .ok (.iadd, 1) := by decide +kernel
theorem dL_waters_133 : decode cL_waters 133 = .ok (.istore 9, 2) := by decide +kernel
theorem dL_waters_135 : decode cL_waters 135 = .ok (.aload_n 0, 1) := by decide +kernel
theorem dL_waters_136 : decode cL_waters 136 = .ok (.iload 10, 2) := by decide +kernel
theorem dL_waters_138 : decode cL_waters 138 = .ok (.iconst 3, 1) := by decide +kernel
theorem dL_waters_139 : decode cL_waters 139 = .ok (.invokevirtual 27, 3) := by decide +kernel
theorem dL_waters_142 : decode cL_waters 142 = .ok (.iload 11, 2) := by decide +kernel
theorem dL_waters_144 : decode cL_waters 144 = .ok (.ifCond .eq 7, 3) := by decide +kernel
theorem dL_waters_147 : decode cL_waters 147 = .ok (.iconst 1, 1) := by decide +kernel
theorem dL_waters_148 : decode cL_waters 148 = .ok (.goto 4, 3) := by decide +kernel
theorem dL_waters_151 : decode cL_waters 151 = .ok (.iconst 0, 1) := by decide +kernel
theorem dL_waters_152 : decode cL_waters 152 = .ok (.if_icmp .ne 18, 3) := by decide +kernel
theorem dL_waters_155 : decode cL_waters 155 = .ok (.aload_n 0, 1) := by decide +kernel
theorem dL_waters_156 : decode cL_waters 156 = .ok (.iload 10, 2) := by decide +kernel
theorem dL_waters_158 : decode cL_waters 158 = .ok (.iconst 4, 1) := by decide +kernel
theorem dL_waters_159 : decode cL_waters 159 = .ok (.invokevirtual 27, 3) := by decide +kernel
theorem dL_waters_162 : decode cL_waters 162 = .ok (.aload_n 0, 1) := by decide +kernel
theorem dL_waters_163 : decode cL_waters 163 = .ok (.iconst 0, 1) := by decide +kernel
theorem dL_waters_164 : decode cL_waters 164 = .ok (.invokevirtual 13, 3) := by decide +kernel
theorem dL_waters_167 : decode cL_waters 167 = .ok (.if_icmp .le 5, 3) := by decide +kernel
theorem dL_waters_170 : decode cL_waters 170 = .ok (.iconst 0, 1) := by decide +kernel
theorem dL_waters_171 : decode cL_waters 171 = .ok (.ireturn, 1) := by decide +kernel
theorem dL_waters_172 : decode cL_waters 172 = .ok (.iinc 10 1, 3) := by decide +kernel
theorem dL_waters_175 : decode cL_waters 175 = .ok (.goto (-109), 3) := by decide +kernel
theorem dL_waters_178 : decode cL_waters 178 = .ok (.aload_n 0, 1) := by decide +kernel
theorem dL_waters_179 : decode cL_waters 179 = .ok (.iconst 0, 1) := by decide +kernel
theorem dL_waters_180 : decode cL_waters 180 = .ok (.invokevirtual 19, 3) := by decide +kernel
theorem dL_waters_183 : decode cL_waters 183 = .ok (.lload_n 1, 1) := by decide +kernel
theorem dL_waters_184 : decode cL_waters 184 = .ok (.lcmp, 1) := by decide +kernel
theorem dL_waters_185 : decode cL_waters 185 = .ok (.ifCond .ne 121, 3) := by decide +kernel
theorem dL_waters_188 : decode cL_waters 188 = .ok (.lload_n 1, 1) := by decide +kernel
theorem dL_waters_189 : decode cL_waters 189 = .ok (.lconst 0, 1) := by decide +kernel
theorem dL_waters_190 : decode cL_waters 190 = .ok (.lcmp, 1) := by decide +kernel
theorem dL_waters_191 : decode cL_waters 191 = .ok (.ifCond .lt 115, 3) := by decide +kernel
theorem dL_waters_194 : decode cL_waters 194 = .ok (.aload_n 0, 1) := by decide +kernel
theorem dL_waters_195 : decode cL_waters 195 = .ok (.iconst 1, 1) := by decide +kernel
theorem dL_waters_196 : decode cL_waters 196 = .ok (.invokevirtual 37, 3) := by decide +kernel
theorem dL_waters_199 : decode cL_waters 199 = .ok (.dload_n 3, 1) := by decide +kernel
theorem dL_waters_200 : decode cL_waters 200 = .ok (.dcmp .l, 1) := by decide +kernel
theorem dL_waters_201 : decode cL_waters 201 = .ok (.ifCond .ne 105, 3) := by decide +kernel
theorem dL_waters_204 : decode cL_waters 204 = .ok (.aload_n 0, 1) := by decide +kernel
theorem dL_waters_205 : decode cL_waters 205 = .ok (.iconst 0, 1) := by decide +kernel
theorem dL_waters_206 : decode cL_waters 206 = .ok (.invokevirtual 41, 3) := by decide +kernel
theorem dL_waters_209 : decode cL_waters 209 = .ok (.dload_n 3, 1) := by decide +kernel
theorem dL_waters_210 : decode cL_waters 210 = .ok (.dcmp .l, 1) := by decide +kernel
theorem dL_waters_211 : decode cL_waters 211 = .ok (.ifCond .ne 95, 3) := by decide +kernel
theorem dL_waters_214 : decode cL_waters 214 = .ok (.dload 5, 2) := by decide +kernel
theorem dL_waters_216 : decode cL_waters 216 = .ok (.dload 5, 2) := by decide +kernel
theorem dL_waters_218 : decode cL_waters 218 = .ok (.dcmp .l, 1) := by decide +kernel
theorem dL_waters_219 : decode cL_waters 219 = .ok (.ifCond .eq 87, 3) := by decide +kernel
theorem dL_waters_222 : decode cL_waters 222 = .ok (.dload 7, 2) := by decide +kernel
theorem dL_waters_224 : decode cL_waters 224 = .ok (.dload 7, 2) := by decide +kernel
theorem dL_waters_226 : decode cL_waters 226 = .ok (.dcmp .l, 1) := by decide +kernel
theorem dL_waters_227 : decode cL_waters 227 = .ok (.ifCond .eq 79, 3) := by decide +kernel
theorem dL_waters_230 : decode cL_waters 230 = .ok (.aload_n 0, 1) := by decide +kernel
theorem dL_waters_231 : decode cL_waters 231 = .ok (.bipush 6, 2) := by decide +kernel
theorem dL_waters_233 : decode cL_waters 233 = .ok (.invokevirtual 19, 3) := by decide +kernel
theorem dL_waters_236 : decode cL_waters 236 = .ok (.ldc2_w 44, 3) := by decide +kernel
theorem dL_waters_239 : decode cL_waters 239 = .ok (.lcmp, 1) := by decide +kernel
theorem dL_waters_240 : decode cL_waters 240 = .ok (.ifCond .ne 66, 3) := by decide +kernel
theorem dL_waters_243 : decode cL_waters 243 = .ok (.aload_n 0, 1) := by decide +kernel
theorem dL_waters_244 : decode cL_waters 244 = .ok (.bipush 8, 2) := by decide +kernel
theorem dL_waters_246 : decode cL_waters 246 = .ok (.invokevirtual 13, 3) := by decide +kernel
theorem dL_waters_249 : decode cL_waters 249 = .ok (.aload_n 0, 1) := by decide +kernel
theorem dL_waters_250 : decode cL_waters 250 = .ok (.bipush 7, 2) := by decide +kernel
theorem dL_waters_252 : decode cL_waters 252 = .ok (.invokevirtual 13, 3) := by decide +kernel
theorem dL_waters_255 : decode cL_waters 255 = .ok (.if_icmp .gt 51, 3) := by decide +kernel
theorem dL_waters_258 : decode cL_waters 258 = .ok (.aload_n 0, 1) := by decide +kernel
theorem dL_waters_259 : decode cL_waters 259 = .ok (.iconst 5, 1) := by decide +kernel
theorem dL_waters_260 : decode cL_waters 260 = .ok (.invokevirtual 13, 3) := by decide +kernel
theorem dL_waters_263 : decode cL_waters 263 = .ok (.aload_n 0, 1) := by decide +kernel
theorem dL_waters_264 : decode cL_waters 264 = .ok (.bipush 6, 2) := by decide +kernel
theorem dL_waters_266 : decode cL_waters 266 = .ok (.invokevirtual 13, 3) := by decide +kernel
theorem dL_waters_269 : decode cL_waters 269 = .ok (.if_icmp .gt 37, 3) := by decide +kernel
theorem dL_waters_272 : decode cL_waters 272 = .ok (.aload_n 0, 1) := by decide +kernel
theorem dL_waters_273 : decode cL_waters 273 = .ok (.bipush 17, 2) := by decide +kernel
theorem dL_waters_275 : decode cL_waters 275 = .ok (.invokevirtual 13, 3) := by decide +kernel
theorem dL_waters_278 : decode cL_waters 278 = .ok (.aload_n 0, 1) := by decide +kernel
theorem dL_waters_279 : decode cL_waters 279 = .ok (.bipush 14, 2) := by decide +kernel
theorem dL_waters_281 : decode cL_waters 281 = .ok (.invokevirtual 13, 3) := by decide +kernel
theorem dL_waters_284 : decode cL_waters 284 = .ok (.if_icmp .gt 22, 3) := by decide +kernel
theorem dL_waters_287 : decode cL_waters 287 = .ok (.aload_n 0, 1) := by decide +kernel
theorem dL_waters_288 : decode cL_waters 288 = .ok (.aload_n 0, 1) := by decide +kernel
theorem dL_waters_289 : decode cL_waters 289 = .ok (.bipush 14, 2) := by decide +kernel
theorem dL_waters_291 : decode cL_waters 291 = .ok (.invokevirtual 13, 3) := by decide +kernel
theorem dL_waters_294 : decode cL_waters 294 = .ok (.iconst 0, 1) := by decide +kernel
theorem dL_waters_295 : decode cL_waters 295 = .ok (.invokevirtual 27, 3) := by decide +kernel
theorem dL_waters_298 : decode cL_waters 298 = .ok (.iconst (-1), 1) := by decide +kernel
theorem dL_waters_299 : decode cL_waters 299 = .ok (.if_icmp .ne 7, 3) := by decide +kernel
theorem dL_waters_302 : decode cL_waters 302 = .ok (.iconst 1, 1) := by decide +kernel
theorem dL_waters_303 : decode cL_waters 303 = .ok (.goto 4, 3) := by decide +kernel
theorem dL_waters_306 : decode cL_waters 306 = .ok (.iconst 0, 1) := by decide +kernel
theorem dL_waters_307 : decode cL_waters 307 = .ok (.ireturn, 1) := by decide +kernel
theorem dL_bits_0 : decode cL_bits 0 = .ok (.iload_n 0, 1) := by decide +kernel
theorem dL_bits_1 : decode cL_bits 1 = .ok (.ifCond .ne 7, 3) := by decide +kernel
theorem dL_bits_4 : decode cL_bits 4 = .ok (.lconst 0, 1) := by decide +kernel
theorem dL_bits_5 : decode cL_bits 5 = .ok (.goto 50, 3) := by decide +kernel
theorem dL_bits_8 : decode cL_bits 8 = .ok (.iload_n 0, 1) := by decide +kernel
theorem dL_bits_9 : decode cL_bits 9 = .ok (.iconst 1, 1) := by decide +kernel
theorem dL_bits_10 : decode cL_bits 10 = .ok (.if_icmp .ne 9, 3) := by decide +kernel
theorem dL_bits_13 : decode cL_bits 13 = .ok (.ldc2_w 46, 3) := by decide +kernel
theorem dL_bits_16 : decode cL_bits 16 = .ok (.goto 39, 3) := by decide +kernel
theorem dL_bits_19 : decode cL_bits 19 = .ok (.iload_n 0, 1) := by decide +kernel
theorem dL_bits_20 : decode cL_bits 20 = .ok (.iconst 2, 1) := by decide +kernel
theorem dL_bits_21 : decode cL_bits 21 = .ok (.if_icmp .ne 9, 3) := by decide +kernel
theorem dL_bits_24 : decode cL_bits 24 = .ok (.ldc2_w 48, 3) := by decide +kernel
theorem dL_bits_27 : decode cL_bits 27 = .ok (.goto 28, 3) := by decide +kernel
theorem dL_bits_30 : decode cL_bits 30 = .ok (.iload_n 0, 1) := by decide +kernel
theorem dL_bits_31 : decode cL_bits 31 = .ok (.iconst 3, 1) := by decide +kernel
theorem dL_bits_32 : decode cL_bits 32 = .ok (.if_icmp .ne 9, 3) := by decide +kernel
theorem dL_bits_35 : decode cL_bits 35 = .ok (.ldc2_w 50, 3) := by decide +kernel
theorem dL_bits_38 : decode cL_bits 38 = .ok (.goto 17, 3) := by decide +kernel
theorem dL_bits_41 : decode cL_bits 41 = .ok (.iload_n 0, 1) := by decide +kernel
theorem dL_bits_42 : decode cL_bits 42 = .ok (.iconst 4, 1) := by decide +kernel
theorem dL_bits_43 : decode cL_bits 43 = .ok (.if_icmp .ne 9, 3) := by decide +kernel
theorem dL_bits_46 : decode cL_bits 46 = .ok (.ldc2_w 52, 3) := by decide +kernel
theorem dL_bits_49 : decode cL_bits 49 = .ok (.goto 6, 3) := by decide +kernel
theorem dL_bits_52 : decode cL_bits 52 = .ok (.ldc2_w 54, 3) := by decide +kernel
theorem dL_bits_55 : decode cL_bits 55 = .ok (.lreturn, 1) := by decide +kernel
theorem dL_adds_0 : decode cL_adds 0 = .ok (.iload_n 1, 1) := by decide +kernel
theorem dL_adds_1 : decode cL_adds 1 = .ok (.ifCond .ne 184, 3) := by decide +kernel
theorem dL_adds_4 : decode cL_adds 4 = .ok (.aload_n 0, 1) := by decide +kernel
theorem dL_adds_5 : decode cL_adds 5 = .ok (.bipush 11, 2) := by decide +kernel
theorem dL_adds_7 : decode cL_adds 7 = .ok (.invokevirtual 13, 3) := by decide +kernel
theorem dL_adds_10 : decode cL_adds 10 = .ok (.istore 4, 2) := by decide +kernel
theorem dL_adds_12 : decode cL_adds 12 = .ok (.iconst 1, 1) := by decide +kernel
theorem dL_adds_13 : decode cL_adds 13 = .ok (.iload_n 3, 1) := by decide +kernel
theorem dL_adds_14 : decode cL_adds 14 = .ok (.bipush 6, 2) := by decide +kernel
theorem dL_adds_16 : decode cL_adds 16 = .ok (.ishr, 1) := by decide +kernel
theorem dL_adds_17 : decode cL_adds 17 = .ok (.iconst 3, 1) := by decide +kernel
theorem dL_adds_18 : decode cL_adds 18 = .ok (.invokestatic 56, 3) := by decide +kernel
theorem dL_adds_21 : decode cL_adds 21 = .ok (.iadd, 1) := by decide +kernel
theorem dL_adds_22 : decode cL_adds 22 = .ok (.istore 5, 2) := by decide +kernel
theorem dL_adds_24 : decode cL_adds 24 = .ok (.aload_n 0, 1) := by decide +kernel
theorem dL_adds_25 : decode cL_adds 25 = .ok (.bipush 51, 2) := by decide +kernel
theorem dL_adds_27 : decode cL_adds 27 = .ok (.lconst 0, 1) := by decide +kernel
theorem dL_adds_28 : decode cL_adds 28 = .ok (.iconst 1, 1) := by decide +kernel
theorem dL_adds_29 : decode cL_adds 29 = .ok (.iconst 1, 1) := by decide +kernel
theorem dL_adds_30 : decode cL_adds 30 = .ok (.invokevirtual 61, 3) := by decide +kernel
theorem dL_adds_33 : decode cL_adds 33 = .ok (.bipush (-2), 2) := by decide +kernel
theorem dL_adds_35 : decode cL_adds 35 = .ok (.if_icmp .ne 51, 3) := by decide +kernel
theorem dL_adds_38 : decode cL_adds 38 = .ok (.aload_n 0, 1) := by decide +kernel
theorem dL_adds_39 : decode cL_adds 39 = .ok (.iconst 1, 1) := by decide +kernel
theorem dL_adds_40 : decode cL_adds 40 = .ok (.ldc2_w 48, 3) := by decide +kernel
theorem dL_adds_43 : decode cL_adds 43 = .ok (.iconst 1, 1) := by decide +kernel
theorem dL_adds_44 : decode cL_adds 44 = .ok (.iconst 1, 1) := by decide +kernel
theorem dL_adds_45 : decode cL_adds 45 = .ok (.invokevirtual 61, 3) := by decide +kernel
theorem dL_adds_48 : decode cL_adds 48 = .ok (.bipush (-2), 2) := by decide +kernel
theorem dL_adds_50 : decode cL_adds 50 = .ok (.if_icmp .ne 36, 3) := by decide +kernel
theorem dL_adds_53 : decode cL_adds 53 = .ok (.aload_n 0, 1) := by decide +kernel
theorem dL_adds_54 : decode cL_adds 54 = .ok (.iconst 1, 1) := by decide +kernel
theorem dL_adds_55 : decode cL_adds 55 = .ok (.ldc2_w 65, 3) := by decide +kernel
theorem dL_adds_58 : decode cL_adds 58 = .ok (.iconst 1, 1) := by decide +kernel
theorem dL_adds_59 : decode cL_adds 59 = .ok (.iconst 1, 1) := by decide +kernel
theorem dL_adds_60 : decode cL_adds 60 = .ok (.invokevirtual 61, 3) := by decide +kernel
theorem dL_adds_63 : decode cL_adds 63 = .ok (.bipush (-2), 2) := by decide +kernel
theorem dL_adds_65 : decode cL_adds 65 = .ok (.if_icmp .ne 21, 3) := by decide +kernel
theorem dL_adds_68 : decode cL_adds 68 = .ok (.aload_n 0, 1) := by decide +kernel
theorem dL_adds_69 : decode cL_adds 69 = .ok (.iconst 1, 1) := by decide +kernel
theorem dL_adds_70 : decode cL_adds 70 = .ok (.lconst 0, 1) := by decide +kernel
theorem dL_adds_71 : decode cL_adds 71 = .ok (.bipush 7, 2) := by decide +kernel
theorem dL_adds_73 : decode cL_adds 73 = .ok (.iconst 1, 1) := by decide +kernel
theorem dL_adds_74 : decode cL_adds 74 = .ok (.invokevirtual 61, 3) := by decide +kernel
theorem dL_adds_77 : decode cL_adds 77 = .ok (.bipush (-2), 2) := by decide +kernel
theorem dL_adds_79 : decode cL_adds 79 = .ok (.if_icmp .ne 7, 3) := by decide +kernel
theorem dL_adds_82 : decode cL_adds 82 = .ok (.iconst 1, 1) := by decide +kernel
theorem dL_adds_83 : decode cL_adds 83 = .ok (.goto 4, 3) := by decide +kernel
theorem dL_adds_86 : decode cL_adds 86 = .ok (.iconst 0, 1) := by decide +kernel
theorem dL_adds_87 : decode cL_adds 87 = .ok (.istore 6, 2) := by decide +kernel
theorem dL_adds_89 : decode cL_adds 89 = .ok (.iload 6, 2) := by decide +kernel
theorem dL_adds_91 : decode cL_adds 91 = .ok (.ifCond .eq 92, 3) := by decide +kernel
theorem dL_adds_94 : decode cL_adds 94 = .ok (.aload_n 0, 1) := by decide +kernel
theorem dL_adds_95 : decode cL_adds 95 = .ok (.iconst 1, 1) := by decide +kernel
theorem dL_adds_96 : decode cL_adds 96 = .ok (.iload_n 2, 1) := by decide +kernel
theorem dL_adds_97 : decode cL_adds 97 = .ok (.bipush 50, 2) := by decide +kernel
theorem dL_adds_99 : decode cL_adds 99 = .ok (.invokestatic 56, 3) := by decide +kernel
theorem dL_adds_102 : decode cL_adds 102 = .ok (.iadd, 1) := by decide +kernel
theorem dL_adds_103 : decode cL_adds 103 = .ok (.iload_n 3, 1) := by decide +kernel
theorem dL_adds_104 : decode cL_adds 104 = .ok (.iconst 1, 1) := by decide +kernel
theorem dL_adds_105 : decode cL_adds 105 = .ok (.iand, 1) := by decide +kernel
theorem dL_adds_106 : decode cL_adds 106 = .ok (.ifCond .ne 9, 3) := by decide +kernel
theorem dL_adds_109 : decode cL_adds 109 = .ok (.ldc2_w 52, 3) := by decide +kernel
theorem dL_adds_112 : decode cL_adds 112 = .ok (.goto 6, 3) := by decide +kernel
theorem dL_adds_115 : decode cL_adds 115 = .ok (.ldc2_w 50, 3) := by decide +kernel
theorem dL_adds_118 : decode cL_adds 118 = .ok (.iconst 1, 1) := by decide +kernel
theorem dL_adds_119 : decode cL_adds 119 = .ok (.iload_n 3, 1) := by decide +kernel
theorem dL_adds_120 : decode cL_adds 120 = .ok (.iconst 2, 1) := by decide +kernel
theorem dL_adds_121 : decode cL_adds 121 = .ok (.ishr, 1) := by decide +kernel
theorem dL_adds_122 : decode cL_adds 122 = .ok (.bipush 6, 2) := by decide +kernel
theorem dL_adds_124 : decode cL_adds 124 = .ok (.invokestatic 56, 3) := by decide +kernel
theorem dL_adds_127 : decode cL_adds 127 = .ok (.iadd, 1) := by decide +kernel
theorem dL_adds_128 : decode cL_adds 128 = .ok (.iload 5, 2) := by decide +kernel
theorem dL_adds_130 : decode cL_adds 130 = .ok (.invokevirtual 61, 3) := by decide +kernel
theorem dL_adds_133 : decode cL_adds 133 = .ok (.iload 4, 2) := by decide +kernel
theorem dL_adds_135 : decode cL_adds 135 = .ok (.bipush 8, 2) := by decide +kernel
theorem dL_adds_137 : decode cL_adds 137 = .ok (.if_icmp .ne 8, 3) := by decide +kernel
theorem dL_adds_140 : decode cL_adds 140 = .ok (.bipush (-3), 2) := by decide +kernel
theorem dL_adds_142 : decode cL_adds 142 = .ok (.goto 5, 3) := by decide +kernel
theorem dL_adds_145 : decode cL_adds 145 = .ok (.iload 4, 2) := by decide +kernel
theorem dL_adds_147 : decode cL_adds 147 = .ok (.if_icmp .ne 36, 3) := by decide +kernel
theorem dL_adds_150 : decode cL_adds 150 = .ok (.iload 4, 2) := by decide +kernel
theorem dL_adds_152 : decode cL_adds 152 = .ok (.bipush 8, 2) := by decide +kernel
theorem dL_adds_154 : decode cL_adds 154 = .ok (.if_icmp .eq 25, 3) := by decide +kernel
theorem dL_adds_157 : decode cL_adds 157 = .ok (.aload_n 0, 1) := by decide +kernel
theorem dL_adds_158 : decode cL_adds 158 = .ok (.iload 4, 2) := by decide +kernel
theorem dL_adds_160 : decode cL_adds 160 = .ok (.iconst 2, 1) := by decide +kernel
theorem dL_adds_161 : decode cL_adds 161 = .ok (.invokevirtual 23, 3) := by decide +kernel
theorem dL_adds_164 : decode cL_adds 164 = .ok (.iload 5, 2) := by decide +kernel
theorem dL_adds_166 : decode cL_adds 166 = .ok (.if_icmp .ne 17, 3) := by decide +kernel
theorem dL_adds_169 : decode cL_adds 169 = .ok (.aload_n 0, 1) := by decide +kernel
theorem dL_adds_170 : decode cL_adds 170 = .ok (.iload 4, 2) := by decide +kernel
theorem dL_adds_172 : decode cL_adds 172 = .ok (.iconst 3, 1) := by decide +kernel
theorem dL_adds_173 : decode cL_adds 173 = .ok (.invokevirtual 23, 3) := by decide +kernel
theorem dL_adds_176 : decode cL_adds 176 = .ok (.ifCond .ne 7, 3) := by decide +kernel
theorem dL_adds_179 : decode cL_adds 179 = .ok (.iconst 1, 1) := by decide +kernel
theorem dL_adds_180 : decode cL_adds 180 = .ok (.goto 4, 3) := by decide +kernel
theorem dL_adds_183 : decode cL_adds 183 = .ok (.iconst 0, 1) := by decide +kernel
theorem dL_adds_184 : decode cL_adds 184 = .ok (.ireturn, 1) := by decide +kernel
theorem dL_adds_185 : decode cL_adds 185 = .ok (.iload_n 1, 1) := by decide +kernel
theorem dL_adds_186 : decode cL_adds 186 = .ok (.iconst 1, 1) := by decide +kernel
theorem dL_adds_187 : decode cL_adds 187 = .ok (.if_icmp .ne 95, 3) := by decide +kernel
theorem dL_adds_190 : decode cL_adds 190 = .ok (.aload_n 0, 1) := by decide +kernel
theorem dL_adds_191 : decode cL_adds 191 = .ok (.bipush 12, 2) := by decide +kernel
theorem dL_adds_193 : decode cL_adds 193 = .ok (.invokevirtual 13, 3) := by decide +kernel
theorem dL_adds_196 : decode cL_adds 196 = .ok (.istore 4, 2) := by decide +kernel
theorem dL_adds_198 : decode cL_adds 198 = .ok (.aload_n 0, 1) := by decide +kernel
theorem dL_adds_199 : decode cL_adds 199 = .ok (.bipush 6, 2) := by decide +kernel
theorem dL_adds_201 : decode cL_adds 201 = .ok (.invokevirtual 13, 3) := by decide +kernel
theorem dL_adds_204 : decode cL_adds 204 = .ok (.istore 5, 2) := by decide +kernel
theorem dL_adds_206 : decode cL_adds 206 = .ok (.iconst 1, 1) := by decide +kernel
theorem dL_adds_207 : decode cL_adds 207 = .ok (.iload_n 3, 1) := by decide +kernel
theorem dL_adds_208 : decode cL_adds 208 = .ok (.bipush 99, 2) := by decide +kernel
theorem dL_adds_210 : decode cL_adds 210 = .ok (.invokestatic 56, 3) := by decide +kernel
theorem dL_adds_213 : decode cL_adds 213 = .ok (.iadd, 1) := by decide +kernel
theorem dL_adds_214 : decode cL_adds 214 = .ok (.istore 6, 2) := by decide +kernel
theorem dL_adds_216 : decode cL_adds 216 = .ok (.aload_n 0, 1) := by decide +kernel
theorem dL_adds_217 : decode cL_adds 217 = .ok (.iload 6, 2) := by decide +kernel
theorem dL_adds_219 : decode cL_adds 219 = .ok (.invokevirtual 67, 3) := by decide +kernel
theorem dL_adds_222 : decode cL_adds 222 = .ok (.iload 4, 2) := by decide +kernel
theorem dL_adds_224 : decode cL_adds 224 = .ok (.bipush 6, 2) := by decide +kernel
theorem dL_adds_226 : decode cL_adds 226 = .ok (.if_icmp .ne 8, 3) := by decide +kernel
theorem dL_adds_229 : decode cL_adds 229 = .ok (.bipush (-3), 2) := by decide +kernel
theorem dL_adds_231 : decode cL_adds 231 = .ok (.goto 5, 3) := by decide +kernel
theorem dL_adds_234 : decode cL_adds 234 = .ok (.iload 4, 2) := by decide +kernel
theorem dL_adds_236 : decode cL_adds 236 = .ok (.if_icmp .ne 44, 3) := by decide +kernel
theorem dL_adds_239 : decode cL_adds 239 = .ok (.aload_n 0, 1) := by decide +kernel
theorem dL_adds_240 : decode cL_adds 240 = .ok (.bipush 6, 2) := by decide +kernel
theorem dL_adds_242 : decode cL_adds 242 = .ok (.invokevirtual 13, 3) := by decide +kernel
theorem dL_adds_245 : decode cL_adds 245 = .ok (.iload 4, 2) := by decide +kernel
theorem dL_adds_247 : decode cL_adds 247 = .ok (.bipush 6, 2) := by decide +kernel
theorem dL_adds_249 : decode cL_adds 249 = .ok (.if_icmp .ne 8, 3) := by decide +kernel
theorem dL_adds_252 : decode cL_adds 252 = .ok (.iload 5, 2) := by decide +kernel
theorem dL_adds_254 : decode cL_adds 254 = .ok (.goto 8, 3) := by decide +kernel
theorem dL_adds_257 : decode cL_adds 257 = .ok (.iload 5, 2) := by decide +kernel
theorem dL_adds_259 : decode cL_adds 259 = .ok (.iload 6, 2) := by decide +kernel
theorem dL_adds_261 : decode cL_adds 261 = .ok (.iadd, 1) := by decide +kernel
theorem dL_adds_262 : decode cL_adds 262 = .ok (.if_icmp .ne 18, 3) := by decide +kernel
theorem dL_adds_265 : decode cL_adds 265 = .ok (.aload_n 0, 1) := by decide +kernel
theorem dL_adds_266 : decode cL_adds 266 = .ok (.bipush 100, 2) := by decide +kernel
theorem dL_adds_268 : decode cL_adds 268 = .ok (.invokevirtual 67, 3) := by decide +kernel
theorem dL_adds_271 : decode cL_adds 271 = .ok (.bipush (-2), 2) := by decide +kernel
theorem dL_adds_273 : decode cL_adds 273 = .ok (.if_icmp .ne 7, 3) := by decide +kernel
theorem dL_adds_276 : decode cL_adds 276 = .ok (.iconst 1, 1) := by decide +kernel
theorem dL_adds_277 : decode cL_adds 277 = .ok (.goto 4, 3) := by decide +kernel
theorem dL_adds_280 : decode cL_adds 280 = .ok (.iconst 0, 1) := by decide +kernel
theorem dL_adds_281 : decode cL_adds 281 = .ok (.ireturn, 1) := by decide +kernel
theorem dL_adds_282 : decode cL_adds 282 = .ok (.iload_n 1, 1) := by decide +kernel
theorem dL_adds_283 : decode cL_adds 283 = .ok (.iconst 2, 1) := by decide +kernel
theorem dL_adds_284 : decode cL_adds 284 = .ok (.if_icmp .ne 54, 3) := by decide +kernel
theorem dL_adds_287 : decode cL_adds 287 = .ok (.aload_n 0, 1) := by decide +kernel
theorem dL_adds_288 : decode cL_adds 288 = .ok (.bipush 13, 2) := by decide +kernel
theorem dL_adds_290 : decode cL_adds 290 = .ok (.invokevirtual 13, 3) := by decide +kernel
theorem dL_adds_293 : decode cL_adds 293 = .ok (.istore 4, 2) := by decide +kernel
theorem dL_adds_295 : decode cL_adds 295 = .ok (.aload_n 0, 1) := by decide +kernel
theorem dL_adds_296 : decode cL_adds 296 = .ok (.iload_n 3, 1) := by decide +kernel
theorem dL_adds_297 : decode cL_adds 297 = .ok (.sipush 9000, 3) := by decide +kernel
theorem dL_adds_300 : decode cL_adds 300 = .ok (.invokestatic 56, 3) := by decide +kernel
theorem dL_adds_303 : decode cL_adds 303 = .ok (.invokevirtual 70, 3) := by decide +kernel
theorem dL_adds_306 : decode cL_adds 306 = .ok (.iload 4, 2) := by decide +kernel
theorem dL_adds_308 : decode cL_adds 308 = .ok (.iconst 4, 1) := by decide +kernel
theorem dL_adds_309 : decode cL_adds 309 = .ok (.if_icmp .ne 8, 3) := by decide +kernel
theorem dL_adds_312 : decode cL_adds 312 = .ok (.bipush (-3), 2) := by decide +kernel
theorem dL_adds_314 : decode cL_adds 314 = .ok (.goto 5, 3) := by decide +kernel
theorem dL_adds_317 : decode cL_adds 317 = .ok (.iload 4, 2) := by decide +kernel
theorem dL_adds_319 : decode cL_adds 319 = .ok (.if_icmp .ne 17, 3) := by decide +kernel
theorem dL_adds_322 : decode cL_adds 322 = .ok (.aload_n 0, 1) := by decide +kernel
theorem dL_adds_323 : decode cL_adds 323 = .ok (.iconst (-1), 1) := by decide +kernel
theorem dL_adds_324 : decode cL_adds 324 = .ok (.invokevirtual 70, 3) := by decide +kernel
theorem dL_adds_327 : decode cL_adds 327 = .ok (.bipush (-2), 2) := by decide +kernel
theorem dL_adds_329 : decode cL_adds 329 = .ok (.if_icmp .ne 7, 3) := by decide +kernel
theorem dL_adds_332 : decode cL_adds 332 = .ok (.iconst 1, 1) := by decide +kernel
theorem dL_adds_333 : decode cL_adds 333 = .ok (.goto 4, 3) := by decide +kernel
theorem dL_adds_336 : decode cL_adds 336 = .ok (.iconst 0, 1) := by decide +kernel
theorem dL_adds_337 : decode cL_adds 337 = .ok (.ireturn, 1) := by decide +kernel
theorem dL_adds_338 : decode cL_adds 338 = .ok (.aload_n 0, 1) := by decide +kernel
theorem dL_adds_339 : decode cL_adds 339 = .ok (.bipush 14, 2) := by decide +kernel
theorem dL_adds_341 : decode cL_adds 341 = .ok (.invokevirtual 13, 3) := by decide +kernel
theorem dL_adds_344 : decode cL_adds 344 = .ok (.istore 4, 2) := by decide +kernel
theorem dL_adds_346 : decode cL_adds 346 = .ok (.aload_n 0, 1) := by decide +kernel
theorem dL_adds_347 : decode cL_adds 347 = .ok (.iconst 1, 1) := by decide +kernel
theorem dL_adds_348 : decode cL_adds 348 = .ok (.iload_n 2, 1) := by decide +kernel
theorem dL_adds_349 : decode cL_adds 349 = .ok (.bipush 99, 2) := by decide +kernel
theorem dL_adds_351 : decode cL_adds 351 = .ok (.invokestatic 56, 3) := by decide +kernel
theorem dL_adds_354 : decode cL_adds 354 = .ok (.iadd, 1) := by decide +kernel
theorem dL_adds_355 : decode cL_adds 355 = .ok (.iconst 1, 1) := by decide +kernel
theorem dL_adds_356 : decode cL_adds 356 = .ok (.iload_n 3, 1) := by decide +kernel
theorem dL_adds_357 : decode cL_adds 357 = .ok (.sipush 9000, 3) := by decide +kernel
theorem dL_adds_360 : decode cL_adds 360 = .ok (.invokestatic 56, 3) := by decide +kernel
theorem dL_adds_363 : decode cL_adds 363 = .ok (.iadd, 1) := by decide +kernel
theorem dL_adds_364 : decode cL_adds 364 = .ok (.invokevirtual 73, 3) := by decide +kernel
theorem dL_adds_367 : decode cL_adds 367 = .ok (.iload 4, 2) := by decide +kernel
theorem dL_adds_369 : decode cL_adds 369 = .ok (.bipush 6, 2) := by decide +kernel
theorem dL_adds_371 : decode cL_adds 371 = .ok (.if_icmp .ne 8, 3) := by decide +kernel
theorem dL_adds_374 : decode cL_adds 374 = .ok (.bipush (-3), 2) := by decide +kernel
theorem dL_adds_376 : decode cL_adds 376 = .ok (.goto 5, 3) := by decide +kernel
theorem dL_adds_379 : decode cL_adds 379 = .ok (.iload 4, 2) := by decide +kernel
theorem dL_adds_381 : decode cL_adds 381 = .ok (.if_icmp .ne 19, 3) := by decide +kernel
theorem dL_adds_384 : decode cL_adds 384 = .ok (.aload_n 0, 1) := by decide +kernel
theorem dL_adds_385 : decode cL_adds 385 = .ok (.bipush 100, 2) := by decide +kernel
theorem dL_adds_387 : decode cL_adds 387 = .ok (.iconst 1, 1) := by decide +kernel
theorem dL_adds_388 : decode cL_adds 388 = .ok (.invokevirtual 73, 3) := by decide +kernel
theorem dL_adds_391 : decode cL_adds 391 = .ok (.bipush (-2), 2) := by decide +kernel
theorem dL_adds_393 : decode cL_adds 393 = .ok (.if_icmp .ne 7, 3) := by decide +kernel
theorem dL_adds_396 : decode cL_adds 396 = .ok (.iconst 1, 1) := by decide +kernel
theorem dL_adds_397 : decode cL_adds 397 = .ok (.goto 4, 3) := by decide +kernel
theorem dL_adds_400 : decode cL_adds 400 = .ok (.iconst 0, 1) := by decide +kernel
theorem dL_adds_401 : decode cL_adds 401 = .ok (.ireturn, 1) := by decide +kernel
theorem dL_sets_0 : decode cL_sets 0 = .ok (.iload_n 1, 1) := by decide +kernel
theorem dL_sets_1 : decode cL_sets 1 = .ok (.iconst 4, 1) := by decide +kernel
theorem dL_sets_2 : decode cL_sets 2 = .ok (.if_icmp .ne 110, 3) := by decide +kernel
theorem dL_sets_5 : decode cL_sets 5 = .ok (.iload_n 2, 1) := by decide +kernel
theorem dL_sets_6 : decode cL_sets 6 = .ok (.bipush 24, 2) := by decide +kernel
theorem dL_sets_8 : decode cL_sets 8 = .ok (.invokestatic 56, 3) := by decide +kernel
theorem dL_sets_11 : decode cL_sets 11 = .ok (.istore 4, 2) := by decide +kernel
theorem dL_sets_13 : decode cL_sets 13 = .ok (.aload_n 0, 1) := by decide +kernel
theorem dL_sets_14 : decode cL_sets 14 = .ok (.iload 4, 2) := by decide +kernel
theorem dL_sets_16 : decode cL_sets 16 = .ok (.invokevirtual 30, 3) := by decide +kernel
theorem dL_sets_19 : decode cL_sets 19 = .ok (.lstore 5, 2) := by decide +kernel
theorem dL_sets_21 : decode cL_sets 21 = .ok (.iload_n 3, 1) := by decide +kernel
theorem dL_sets_22 : decode cL_sets 22 = .ok (.bipush 6, 2) := by decide +kernel
theorem dL_sets_24 : decode cL_sets 24 = .ok (.invokestatic 56, 3) := by decide +kernel
theorem dL_sets_27 : decode cL_sets 27 = .ok (.invokestatic 76, 3) := by decide +kernel
theorem dL_sets_30 : decode cL_sets 30 = .ok (.lstore 7, 2) := by decide +kernel
theorem dL_sets_32 : decode cL_sets 32 = .ok (.aload_n 0, 1) := by decide +kernel
theorem dL_sets_33 : decode cL_sets 33 = .ok (.iload 4, 2) := by decide +kernel
theorem dL_sets_35 : decode cL_sets 35 = .ok (.lload 7, 2) := by decide +kernel
theorem dL_sets_37 : decode cL_sets 37 = .ok (.invokevirtual 79, 3) := by decide +kernel
theorem dL_sets_40 : decode cL_sets 40 = .ok (.lload 5, 2) := by decide +kernel
theorem dL_sets_42 : decode cL_sets 42 = .ok (.lload 7, 2) := by decide +kernel
theorem dL_sets_44 : decode cL_sets 44 = .ok (.lcmp, 1) := by decide +kernel
theorem dL_sets_45 : decode cL_sets 45 = .ok (.ifCond .ne 8, 3) := by decide +kernel
theorem dL_sets_48 : decode cL_sets 48 = .ok (.bipush (-5), 2) := by decide +kernel
theorem dL_sets_50 : decode cL_sets 50 = .ok (.goto 4, 3) := by decide +kernel
theorem dL_sets_53 : decode cL_sets 53 = .ok (.iconst 1, 1) := by decide +kernel
theorem dL_sets_54 : decode cL_sets 54 = .ok (.if_icmp .ne 56, 3) := by decide +kernel
theorem dL_sets_57 : decode cL_sets 57 = .ok (.aload_n 0, 1) := by decide +kernel
theorem dL_sets_58 : decode cL_sets 58 = .ok (.iload 4, 2) := by decide +kernel
theorem dL_sets_60 : decode cL_sets 60 = .ok (.invokevirtual 30, 3) := by decide +kernel
theorem dL_sets_63 : decode cL_sets 63 = .ok (.lload 7, 2) := by decide +kernel
theorem dL_sets_65 : decode cL_sets 65 = .ok (.lcmp, 1) := by decide +kernel
theorem dL_sets_66 : decode cL_sets 66 = .ok (.ifCond .ne 44, 3) := by decide +kernel
theorem dL_sets_69 : decode cL_sets 69 = .ok (.aload_n 0, 1) := by decide +kernel
theorem dL_sets_70 : decode cL_sets 70 = .ok (.bipush 24, 2) := by decide +kernel
theorem dL_sets_72 : decode cL_sets 72 = .ok (.lconst 0, 1) := by decide +kernel
theorem dL_sets_73 : decode cL_sets 73 = .ok (.invokevirtual 79, 3) := by decide +kernel
theorem dL_sets_76 : decode cL_sets 76 = .ok (.bipush (-2), 2) := by decide +kernel
theorem dL_sets_78 : decode cL_sets 78 = .ok (.if_icmp .ne 32, 3) := by decide +kernel
theorem dL_sets_81 : decode cL_sets 81 = .ok (.aload_n 0, 1) := by decide +kernel
theorem dL_sets_82 : decode cL_sets 82 = .ok (.iconst 0, 1) := by decide +kernel
theorem dL_sets_83 : decode cL_sets 83 = .ok (.ldc2_w 65, 3) := by decide +kernel
theorem dL_sets_86 : decode cL_sets 86 = .ok (.invokevirtual 79, 3) := by decide +kernel
theorem dL_sets_89 : decode cL_sets 89 = .ok (.bipush (-2), 2) := by decide +kernel
theorem dL_sets_91 : decode cL_sets 91 = .ok (.if_icmp .ne 19, 3) := by decide +kernel
theorem dL_sets_94 : decode cL_sets 94 = .ok (.aload_n 0, 1) := by decide +kernel
theorem dL_sets_95 : decode cL_sets 95 = .ok (.iconst (-1), 1) := by decide +kernel
theorem dL_sets_96 : decode cL_sets 96 = .ok (.invokevirtual 30, 3) := by decide +kernel
theorem dL_sets_99 : decode cL_sets 99 = .ok (.ldc2_w 44, 3) := by decide +kernel
theorem dL_sets_102 : decode cL_sets 102 = .ok (.lcmp, 1) := by decide +kernel
theorem dL_sets_103 : decode cL_sets 103 = .ok (.ifCond .ne 7, 3) := by decide +kernel
theorem dL_sets_106 : decode cL_sets 106 = .ok (.iconst 1, 1) := by decide +kernel
theorem dL_sets_107 : decode cL_sets 107 = .ok (.goto 4, 3) := by decide +kernel
theorem dL_sets_110 : decode cL_sets 110 = .ok (.iconst 0, 1) := by decide +kernel
theorem dL_sets_111 : decode cL_sets 111 = .ok (.ireturn, 1) := by decide +kernel
theorem dL_sets_112 : decode cL_sets 112 = .ok (.iload_n 1, 1) := by decide +kernel
theorem dL_sets_113 : decode cL_sets 113 = .ok (.iconst 5, 1) := by decide +kernel
theorem dL_sets_114 : decode cL_sets 114 = .ok (.if_icmp .ne 118, 3) := by decide +kernel
theorem dL_sets_117 : decode cL_sets 117 = .ok (.iload_n 2, 1) := by decide +kernel
theorem dL_sets_118 : decode cL_sets 118 = .ok (.iconst 1, 1) := by decide +kernel
theorem dL_sets_119 : decode cL_sets 119 = .ok (.iand, 1) := by decide +kernel
theorem dL_sets_120 : decode cL_sets 120 = .ok (.istore 4, 2) := by decide +kernel
theorem dL_sets_122 : decode cL_sets 122 = .ok (.iload 4, 2) := by decide +kernel
theorem dL_sets_124 : decode cL_sets 124 = .ok (.ifCond .ne 17, 3) := by decide +kernel
theorem dL_sets_127 : decode cL_sets 127 = .ok (.sipush 1000, 3) := by decide +kernel
theorem dL_sets_130 : decode cL_sets 130 = .ok (.iload_n 3, 1) := by decide +kernel
theorem dL_sets_131 : decode cL_sets 131 = .ok (.sipush 5000, 3) := by decide +kernel
theorem dL_sets_134 : decode cL_sets 134 = .ok (.invokestatic 56, 3) := by decide +kernel
theorem dL_sets_137 : decode cL_sets 137 = .ok (.iadd, 1) := by decide +kernel
theorem dL_sets_138 : decode cL_sets 138 = .ok (.goto 10, 3) := by decide +kernel
theorem dL_sets_141 : decode cL_sets 141 = .ok (.iload_n 3, 1) := by decide +kernel
theorem dL_sets_142 : decode cL_sets 142 = .ok (.sipush 300, 3) := by decide +kernel
theorem dL_sets_145 : decode cL_sets 145 = .ok (.invokestatic 56, 3) := by decide +kernel
theorem dL_sets_148 : decode cL_sets 148 = .ok (.istore 5, 2) := by decide +kernel
theorem dL_sets_150 : decode cL_sets 150 = .ok (.aload_n 0, 1) := by decide +kernel
theorem dL_sets_151 : decode cL_sets 151 = .ok (.bipush 9, 2) := by decide +kernel
theorem dL_sets_153 : decode cL_sets 153 = .ok (.iload 4, 2) := by decide +kernel
theorem dL_sets_155 : decode cL_sets 155 = .ok (.iadd, 1) := by decide +kernel
theorem dL_sets_156 : decode cL_sets 156 = .ok (.invokevirtual 13, 3) := by decide +kernel
theorem dL_sets_159 : decode cL_sets 159 = .ok (.istore 6, 2) := by decide +kernel
theorem dL_sets_161 : decode cL_sets 161 = .ok (.aload_n 0, 1) := by decide +kernel
theorem dL_sets_162 : decode cL_sets 162 = .ok (.iload 4, 2) := by decide +kernel
theorem dL_sets_164 : decode cL_sets 164 = .ok (.iload 5, 2) := by decide +kernel
theorem dL_sets_166 : decode cL_sets 166 = .ok (.invokevirtual 83, 3) := by decide +kernel
theorem dL_sets_169 : decode cL_sets 169 = .ok (.iload 6, 2) := by decide +kernel
theorem dL_sets_171 : decode cL_sets 171 = .ok (.iload 5, 2) := by decide +kernel
theorem dL_sets_173 : decode cL_sets 173 = .ok (.if_icmp .ne 8, 3) := by decide +kernel
theorem dL_sets_176 : decode cL_sets 176 = .ok (.bipush (-5), 2) := by decide +kernel
theorem dL_sets_178 : decode cL_sets 178 = .ok (.goto 5, 3) := by decide +kernel
theorem dL_sets_181 : decode cL_sets 181 = .ok (.iload 6, 2) := by decide +kernel
theorem dL_sets_183 : decode cL_sets 183 = .ok (.if_icmp .ne 47, 3) := by decide +kernel
theorem dL_sets_186 : decode cL_sets 186 = .ok (.aload_n 0, 1) := by decide +kernel
theorem dL_sets_187 : decode cL_sets 187 = .ok (.bipush 9, 2) := by decide +kernel
theorem dL_sets_189 : decode cL_sets 189 = .ok (.iload 4, 2) := by decide +kernel
theorem dL_sets_191 : decode cL_sets 191 = .ok (.iadd, 1) := by decide +kernel
theorem dL_sets_192 : decode cL_sets 192 = .ok (.invokevirtual 13, 3) := by decide +kernel
theorem dL_sets_195 : decode cL_sets 195 = .ok (.iload 5, 2) := by decide +kernel
theorem dL_sets_197 : decode cL_sets 197 = .ok (.if_icmp .ne 33, 3) := by decide +kernel
theorem dL_sets_200 : decode cL_sets 200 = .ok (.aload_n 0, 1) := by decide +kernel
theorem dL_sets_201 : decode cL_sets 201 = .ok (.iconst 0, 1) := by decide +kernel
theorem dL_sets_202 : decode cL_sets 202 = .ok (.sipush 999, 3) := by decide +kernel
theorem dL_sets_205 : decode cL_sets 205 = .ok (.invokevirtual 83, 3) := by decide +kernel
theorem dL_sets_208 : decode cL_sets 208 = .ok (.bipush (-2), 2) := by decide +kernel
theorem dL_sets_210 : decode cL_sets 210 = .ok (.if_icmp .ne 20, 3) := by decide +kernel
theorem dL_sets_213 : decode cL_sets 213 = .ok (.aload_n 0, 1) := by decide +kernel
theorem dL_sets_214 : decode cL_sets 214 = .ok (.iconst 2, 1) := by decide +kernel
theorem dL_sets_215 : decode cL_sets 215 = .ok (.sipush 1000, 3) := by decide +kernel
theorem dL_sets_218 : decode cL_sets 218 = .ok (.invokevirtual 83, 3) := by decide +kernel
theorem dL_sets_221 : decode cL_sets 221 = .ok (.bipush (-2), 2) := by decide +kernel
theorem dL_sets_223 : decode cL_sets 223 = .ok (.if_icmp .ne 7, 3) := by decide +kernel
theorem dL_sets_226 : decode cL_sets 226 = .ok (.iconst 1, 1) := by decide +kernel
theorem dL_sets_227 : decode cL_sets 227 = .ok (.goto 4, 3) := by decide +kernel
theorem dL_sets_230 : decode cL_sets 230 = .ok (.iconst 0, 1) := by decide +kernel
theorem dL_sets_231 : decode cL_sets 231 = .ok (.ireturn, 1) := by decide +kernel
theorem dL_sets_232 : decode cL_sets 232 = .ok (.iload_n 1, 1) := by decide +kernel
theorem dL_sets_233 : decode cL_sets 233 = .ok (.bipush 6, 2) := by decide +kernel
theorem dL_sets_235 : decode cL_sets 235 = .ok (.if_icmp .ne 77, 3) := by decide +kernel
theorem dL_sets_238 : decode cL_sets 238 = .ok (.aload_n 0, 1) := by decide +kernel
theorem dL_sets_239 : decode cL_sets 239 = .ok (.iconst 2, 1) := by decide +kernel
theorem dL_sets_240 : decode cL_sets 240 = .ok (.invokevirtual 37, 3) := by decide +kernel
theorem dL_sets_243 : decode cL_sets 243 = .ok (.dstore 4, 2) := by decide +kernel
theorem dL_sets_245 : decode cL_sets 245 = .ok (.iload_n 3, 1) := by decide +kernel
theorem dL_sets_246 : decode cL_sets 246 = .ok (.bipush 6, 2) := by decide +kernel
theorem dL_sets_248 : decode cL_sets 248 = .ok (.invokestatic 56, 3) := by decide +kernel
theorem dL_sets_251 : decode cL_sets 251 = .ok (.invokestatic 76, 3) := by decide +kernel
theorem dL_sets_254 : decode cL_sets 254 = .ok (.lstore 6, 2) := by decide +kernel
theorem dL_sets_256 : decode cL_sets 256 = .ok (.aload_n 0, 1) := by decide +kernel
theorem dL_sets_257 : decode cL_sets 257 = .ok (.lload 6, 2) := by decide +kernel
theorem dL_sets_259 : decode cL_sets 259 = .ok (.invokevirtual 86, 3) := by decide +kernel
theorem dL_sets_262 : decode cL_sets 262 = .ok (.istore 8, 2) := by decide +kernel
theorem dL_sets_264 : decode cL_sets 264 = .ok (.iload 8, 2) := by decide +kernel
theorem dL_sets_266 : decode cL_sets 266 = .ok (.iconst 1, 1) := by decide +kernel
theorem dL_sets_267 : decode cL_sets 267 = .ok (.if_icmp .ne 7, 3) := by decide +kernel
theorem dL_sets_270 : decode cL_sets 270 = .ok (.iconst 1, 1) := by decide +kernel
theorem dL_sets_271 : decode cL_sets 271 = .ok (.goto 4, 3) := by decide +kernel
theorem dL_sets_274 : decode cL_sets 274 = .ok (.iconst 0, 1) := by decide +kernel
theorem dL_sets_275 : decode cL_sets 275 = .ok (.aload_n 0, 1) := by decide +kernel
theorem dL_sets_276 : decode cL_sets 276 = .ok (.iconst 2, 1) := by decide +kernel
theorem dL_sets_277 : decode cL_sets 277 = .ok (.invokevirtual 37, 3) := by decide +kernel
theorem dL_sets_280 : decode cL_sets 280 = .ok (.dload 4, 2) := by decide +kernel
theorem dL_sets_282 : decode cL_sets 282 = .ok (.dcmp .l, 1) := by decide +kernel
theorem dL_sets_283 : decode cL_sets 283 = .ok (.ifCond .ne 7, 3) := by decide +kernel
theorem dL_sets_286 : decode cL_sets 286 = .ok (.iconst 1, 1) := by decide +kernel
theorem dL_sets_287 : decode cL_sets 287 = .ok (.goto 4, 3) := by decide +kernel
theorem dL_sets_290 : decode cL_sets 290 = .ok (.iconst 0, 1) := by decide +kernel
theorem dL_sets_291 : decode cL_sets 291 = .ok (.if_icmp .eq 19, 3) := by decide +kernel
theorem dL_sets_294 : decode cL_sets 294 = .ok (.aload_n 0, 1) := by decide +kernel
theorem dL_sets_295 : decode cL_sets 295 = .ok (.ldc2_w 90, 3) := by decide +kernel
theorem dL_sets_298 : decode cL_sets 298 = .ok (.invokevirtual 86, 3) := by decide +kernel
theorem dL_sets_301 : decode cL_sets 301 = .ok (.bipush (-2), 2) := by decide +kernel
theorem dL_sets_303 : decode cL_sets 303 = .ok (.if_icmp .ne 7, 3) := by decide +kernel
theorem dL_sets_306 : decode cL_sets 306 = .ok (.iconst 1, 1) := by decide +kernel
theorem dL_sets_307 : decode cL_sets 307 = .ok (.goto 4, 3) := by decide +kernel
theorem dL_sets_310 : decode cL_sets 310 = .ok (.iconst 0, 1) := by decide +kernel
theorem dL_sets_311 : decode cL_sets 311 = .ok (.ireturn, 1) := by decide +kernel
theorem dL_sets_312 : decode cL_sets 312 = .ok (.iload_n 1, 1) := by decide +kernel
theorem dL_sets_313 : decode cL_sets 313 = .ok (.bipush 7, 2) := by decide +kernel
theorem dL_sets_315 : decode cL_sets 315 = .ok (.if_icmp .ne 141, 3) := by decide +kernel
theorem dL_sets_318 : decode cL_sets 318 = .ok (.aload_n 0, 1) := by decide +kernel
theorem dL_sets_319 : decode cL_sets 319 = .ok (.bipush 14, 2) := by decide +kernel
theorem dL_sets_321 : decode cL_sets 321 = .ok (.invokevirtual 13, 3) := by decide +kernel
theorem dL_sets_324 : decode cL_sets 324 = .ok (.ifCond .ne 19, 3) := by decide +kernel
theorem dL_sets_327 : decode cL_sets 327 = .ok (.aload_n 0, 1) := by decide +kernel
theorem dL_sets_328 : decode cL_sets 328 = .ok (.iconst 0, 1) := by decide +kernel
theorem dL_sets_329 : decode cL_sets 329 = .ok (.iconst 1, 1) := by decide +kernel
theorem dL_sets_330 : decode cL_sets 330 = .ok (.invokevirtual 92, 3) := by decide +kernel
theorem dL_sets_333 : decode cL_sets 333 = .ok (.iconst (-1), 1) := by decide +kernel
theorem dL_sets_334 : decode cL_sets 334 = .ok (.if_icmp .ne 7, 3) := by decide +kernel
theorem dL_sets_337 : decode cL_sets 337 = .ok (.iconst 1, 1) := by decide +kernel
theorem dL_sets_338 : decode cL_sets 338 = .ok (.goto 4, 3) := by decide +kernel
theorem dL_sets_341 : decode cL_sets 341 = .ok (.iconst 0, 1) := by decide +kernel
theorem dL_sets_342 : decode cL_sets 342 = .ok (.ireturn, 1) := by decide +kernel
theorem dL_sets_343 : decode cL_sets 343 = .ok (.iload_n 2, 1) := by decide +kernel
theorem dL_sets_344 : decode cL_sets 344 = .ok (.aload_n 0, 1) := by decide +kernel
theorem dL_sets_345 : decode cL_sets 345 = .ok (.bipush 14, 2) := by decide +kernel
theorem dL_sets_347 : decode cL_sets 347 = .ok (.invokevirtual 13, 3) := by decide +kernel
theorem dL_sets_350 : decode cL_sets 350 = .ok (.invokestatic 56, 3) := by decide +kernel
theorem dL_sets_353 : decode cL_sets 353 = .ok (.istore 4, 2) := by decide +kernel
theorem dL_sets_355 : decode cL_sets 355 = .ok (.iload_n 3, 1) := by decide +kernel
theorem dL_sets_356 : decode cL_sets 356 = .ok (.iconst 3, 1) := by decide +kernel
theorem dL_sets_357 : decode cL_sets 357 = .ok (.iand, 1) := by decide +kernel
theorem dL_sets_358 : decode cL_sets 358 = .ok (.ifCond .le 7, 3) := by decide +kernel
theorem dL_sets_361 : decode cL_sets 361 = .ok (.iconst 1, 1) := by decide +kernel
theorem dL_sets_362 : decode cL_sets 362 = .ok (.goto 4, 3) := by decide +kernel
theorem dL_sets_365 : decode cL_sets 365 = .ok (.iconst 0, 1) := by decide +kernel
theorem dL_sets_366 : decode cL_sets 366 = .ok (.istore 5, 2) := by decide +kernel
theorem dL_sets_368 : decode cL_sets 368 = .ok (.aload_n 0, 1) := by decide +kernel
theorem dL_sets_369 : decode cL_sets 369 = .ok (.iload 4, 2) := by decide +kernel
theorem dL_sets_371 : decode cL_sets 371 = .ok (.iconst 2, 1) := by decide +kernel
theorem dL_sets_372 : decode cL_sets 372 = .ok (.invokevirtual 27, 3) := by decide +kernel
theorem dL_sets_375 : decode cL_sets 375 = .ok (.iconst 1, 1) := by decide +kernel
theorem dL_sets_376 : decode cL_sets 376 = .ok (.if_icmp .ne 7, 3) := by decide +kernel
theorem dL_sets_379 : decode cL_sets 379 = .ok (.iconst 1, 1) := by decide +kernel
theorem dL_sets_380 : decode cL_sets 380 = .ok (.goto 4, 3) := by decide +kernel
theorem dL_sets_383 : decode cL_sets 383 = .ok (.iconst 0, 1) := by decide +kernel
theorem dL_sets_384 : decode cL_sets 384 = .ok (.istore 6, 2) := by decide +kernel
theorem dL_sets_386 : decode cL_sets 386 = .ok (.iconst 0, 1) := by decide +kernel
theorem dL_sets_387 : decode cL_sets 387 = .ok (.istore 7, 2) := by decide +kernel
theorem dL_sets_389 : decode cL_sets 389 = .ok (.aload_n 0, 1) := by decide +kernel
theorem dL_sets_390 : decode cL_sets 390 = .ok (.iload 4, 2) := by decide +kernel
theorem dL_sets_392 : decode cL_sets 392 = .ok (.iload 5, 2) := by decide +kernel
theorem dL_sets_394 : decode cL_sets 394 = .ok (.invokevirtual 92, 3) := by decide +kernel
theorem dL_sets_397 : decode cL_sets 397 = .ok (.istore 8, 2) := by decide +kernel
theorem dL_sets_399 : decode cL_sets 399 = .ok (.iconst 0, 1) := by decide +kernel
theorem dL_sets_400 : decode cL_sets 400 = .ok (.istore 9, 2) := by decide +kernel
theorem dL_sets_402 : decode cL_sets 402 = .ok (.iload 9, 2) := by decide +kernel
theorem dL_sets_404 : decode cL_sets 404 = .ok (.aload_n 0, 1) := by decide +kernel
theorem dL_sets_405 : decode cL_sets 405 = .ok (.bipush 14, 2) := by decide +kernel
theorem dL_sets_407 : decode cL_sets 407 = .ok (.invokevirtual 13, 3) := by decide +kernel
theorem dL_sets_410 : decode cL_sets 410 = .ok (.if_icmp .ge 21, 3) := by decide +kernel
theorem dL_sets_413 : decode cL_sets 413 = .ok (.iload 7, 2) := by decide +kernel
theorem dL_sets_415 : decode cL_sets 415 = .ok (.aload_n 0, 1) := by decide +kernel
theorem dL_sets_416 : decode cL_sets 416 = .ok (.iload 9, 2) := by decide +kernel
theorem dL_sets_418 : decode cL_sets 418 = .ok (.iconst 2, 1) := by decide +kernel
theorem dL_sets_419 : decode cL_sets 419 = .ok (.invokevirtual 27, 3) := by decide +kernel
theorem dL_sets_422 : decode cL_sets 422 = .ok (.iadd, 1) := by decide +kernel
theorem dL_sets_423 : decode cL_sets 423 = .ok (.istore 7, 2) := by decide +kernel
theorem dL_sets_425 : decode cL_sets 425 = .ok (.iinc 9 1, 3) := by decide +kernel
theorem dL_sets_428 : decode cL_sets 428 = .ok (.goto (-26), 3) := by decide +kernel
theorem dL_sets_431 : decode cL_sets 431 = .ok (.iload 8, 2) := by decide +kernel
theorem dL_sets_433 : decode cL_sets 433 = .ok (.iload 5, 2) := by decide +kernel
theorem dL_sets_435 : decode cL_sets 435 = .ok (.iload 6, 2) := by decide +kernel
theorem dL_sets_437 : decode cL_sets 437 = .ok (.if_icmp .ne 8, 3) := by decide +kernel
theorem dL_sets_440 : decode cL_sets 440 = .ok (.bipush (-5), 2) := by decide +kernel
theorem dL_sets_442 : decode cL_sets 442 = .ok (.goto 5, 3) := by decide +kernel
theorem dL_sets_445 : decode cL_sets 445 = .ok (.iload 7, 2) := by decide +kernel
theorem dL_sets_447 : decode cL_sets 447 = .ok (.if_icmp .ne 7, 3) := by decide +kernel
theorem dL_sets_450 : decode cL_sets 450 = .ok (.iconst 1, 1) := by decide +kernel
theorem dL_sets_451 : decode cL_sets 451 = .ok (.goto 4, 3) := by decide +kernel
theorem dL_sets_454 : decode cL_sets 454 = .ok (.iconst 0, 1) := by decide +kernel
theorem dL_sets_455 : decode cL_sets 455 = .ok (.ireturn, 1) := by decide +kernel
theorem dL_sets_456 : decode cL_sets 456 = .ok (.aload_n 0, 1) := by decide +kernel
theorem dL_sets_457 : decode cL_sets 457 = .ok (.bipush 13, 2) := by decide +kernel
theorem dL_sets_459 : decode cL_sets 459 = .ok (.invokevirtual 13, 3) := by decide +kernel
theorem dL_sets_462 : decode cL_sets 462 = .ok (.ifCond .ne 19, 3) := by decide +kernel
theorem dL_sets_465 : decode cL_sets 465 = .ok (.aload_n 0, 1) := by decide +kernel
theorem dL_sets_466 : decode cL_sets 466 = .ok (.iconst 0, 1) := by decide +kernel
theorem dL_sets_467 : decode cL_sets 467 = .ok (.iconst 1, 1) := by decide +kernel
theorem dL_sets_468 : decode cL_sets 468 = .ok (.invokevirtual 96, 3) := by decide +kernel
theorem dL_sets_471 : decode cL_sets 471 = .ok (.iconst (-1), 1) := by decide +kernel
theorem dL_sets_472 : decode cL_sets 472 = .ok (.if_icmp .ne 7, 3) := by decide +kernel
theorem dL_sets_475 : decode cL_sets 475 = .ok (.iconst 1, 1) := by decide +kernel
theorem dL_sets_476 : decode cL_sets 476 = .ok (.goto 4, 3) := by decide +kernel
theorem dL_sets_479 : decode cL_sets 479 = .ok (.iconst 0, 1) := by decide +kernel
theorem dL_sets_480 : decode cL_sets 480 = .ok (.ireturn, 1) := by decide +kernel
theorem dL_sets_481 : decode cL_sets 481 = .ok (.aload_n 0, 1) := by decide +kernel
theorem dL_sets_482 : decode cL_sets 482 = .ok (.iload_n 2, 1) := by decide +kernel
theorem dL_sets_483 : decode cL_sets 483 = .ok (.aload_n 0, 1) := by decide +kernel
theorem dL_sets_484 : decode cL_sets 484 = .ok (.bipush 13, 2) := by decide +kernel
theorem dL_sets_486 : decode cL_sets 486 = .ok (.invokevirtual 13, 3) := by decide +kernel
theorem dL_sets_489 : decode cL_sets 489 = .ok (.invokestatic 56, 3) := by decide +kernel
theorem dL_sets_492 : decode cL_sets 492 = .ok (.iload_n 3, 1) := by decide +kernel
theorem dL_sets_493 : decode cL_sets 493 = .ok (.sipush 9000, 3) := by decide +kernel
theorem dL_sets_496 : decode cL_sets 496 = .ok (.invokestatic 56, 3) := by decide +kernel
theorem dL_sets_499 : decode cL_sets 499 = .ok (.invokevirtual 96, 3) := by decide +kernel
theorem dL_sets_502 : decode cL_sets 502 = .ok (.bipush (-5), 2) := by decide +kernel
theorem dL_sets_504 : decode cL_sets 504 = .ok (.if_icmp .lt 19, 3) := by decide +kernel
theorem dL_sets_507 : decode cL_sets 507 = .ok (.aload_n 0, 1) := by decide +kernel
theorem dL_sets_508 : decode cL_sets 508 = .ok (.iconst 0, 1) := by decide +kernel
theorem dL_sets_509 : decode cL_sets 509 = .ok (.ldc 99, 2) := by decide +kernel
theorem dL_sets_511 : decode cL_sets 511 = .ok (.invokevirtual 96, 3) := by decide +kernel
theorem dL_sets_514 : decode cL_sets 514 = .ok (.bipush (-2), 2) := by decide +kernel
theorem dL_sets_516 : decode cL_sets 516 = .ok (.if_icmp .ne 7, 3) := by decide +kernel
theorem dL_sets_519 : decode cL_sets 519 = .ok (.iconst 1, 1) := by decide +kernel
theorem dL_sets_520 : decode cL_sets 520 = .ok (.goto 4, 3) := by decide +kernel
theorem dL_sets_523 : decode cL_sets 523 = .ok (.iconst 0, 1) := by decide +kernel
theorem dL_sets_524 : decode cL_sets 524 = .ok (.ireturn, 1) := by decide +kernel
theorem dL_orders_0 : decode cL_orders 0 = .ok (.aload_n 0, 1) := by decide +kernel
theorem dL_orders_1 : decode cL_orders 1 = .ok (.iconst 1, 1) := by decide +kernel
theorem dL_orders_2 : decode cL_orders 2 = .ok (.invokevirtual 13, 3) := by decide +kernel
theorem dL_orders_5 : decode cL_orders 5 = .ok (.istore 4, 2) := by decide +kernel
theorem dL_orders_7 : decode cL_orders 7 = .ok (.iload_n 1, 1) := by decide +kernel
theorem dL_orders_8 : decode cL_orders 8 = .ok (.bipush 11, 2) := by decide +kernel
theorem dL_orders_10 : decode cL_orders 10 = .ok (.if_icmp .ge 142, 3) := by decide +kernel
theorem dL_orders_13 : decode cL_orders 13 = .ok (.aload_n 0, 1) := by decide +kernel
theorem dL_orders_14 : decode cL_orders 14 = .ok (.bipush 12, 2) := by decide +kernel
theorem dL_orders_16 : decode cL_orders 16 = .ok (.invokevirtual 13, 3) := by decide +kernel
theorem dL_orders_19 : decode cL_orders 19 = .ok (.ifCond .ne 28, 3) := by decide +kernel
theorem dL_orders_22 : decode cL_orders 22 = .ok (.aload_n 0, 1) := by decide +kernel
theorem dL_orders_23 : decode cL_orders 23 = .ok (.iconst 0, 1) := by decide +kernel
theorem dL_orders_24 : decode cL_orders 24 = .ok (.iconst 1, 1) := by decide +kernel
theorem dL_orders_25 : decode cL_orders 25 = .ok (.invokevirtual 100, 3) := by decide +kernel
theorem dL_orders_28 : decode cL_orders 28 = .ok (.iconst (-1), 1) := by decide +kernel
theorem dL_orders_29 : decode cL_orders 29 = .ok (.if_icmp .ne 16, 3) := by decide +kernel
theorem dL_orders_32 : decode cL_orders 32 = .ok (.aload_n 0, 1) := by decide +kernel
theorem dL_orders_33 : decode cL_orders 33 = .ok (.invokevirtual 103, 3) := by decide +kernel
theorem dL_orders_36 : decode cL_orders 36 = .ok (.bipush (-4), 2) := by decide +kernel
theorem dL_orders_38 : decode cL_orders 38 = .ok (.if_icmp .ne 7, 3) := by decide +kernel
theorem dL_orders_41 : decode cL_orders 41 = .ok (.iconst 1, 1) := by decide +kernel
theorem dL_orders_42 : decode cL_orders 42 = .ok (.goto 4, 3) := by decide +kernel
theorem dL_orders_45 : decode cL_orders 45 = .ok (.iconst 0, 1) := by decide +kernel
theorem dL_orders_46 : decode cL_orders 46 = .ok (.ireturn, 1) := by decide +kernel
theorem dL_orders_47 : decode cL_orders 47 = .ok (.iload_n 2, 1) := by decide +kernel
theorem dL_orders_48 : decode cL_orders 48 = .ok (.aload_n 0, 1) := by decide +kernel
theorem dL_orders_49 : decode cL_orders 49 = .ok (.bipush 12, 2) := by decide +kernel
theorem dL_orders_51 : decode cL_orders 51 = .ok (.invokevirtual 13, 3) := by decide +kernel
theorem dL_orders_54 : decode cL_orders 54 = .ok (.invokestatic 56, 3) := by decide +kernel
theorem dL_orders_57 : decode cL_orders 57 = .ok (.istore 5, 2) := by decide +kernel
theorem dL_orders_59 : decode cL_orders 59 = .ok (.iload_n 3, 1) := by decide +kernel
theorem dL_orders_60 : decode cL_orders 60 = .ok (.iconst 3, 1) := by decide +kernel
theorem dL_orders_61 : decode cL_orders 61 = .ok (.iand, 1) := by decide +kernel
theorem dL_orders_62 : decode cL_orders 62 = .ok (.ifCond .le 7, 3) := by decide +kernel
theorem dL_orders_65 : decode cL_orders 65 = .ok (.iconst 1, 1) := by decide +kernel
theorem dL_orders_66 : decode cL_orders 66 = .ok (.goto 4, 3) := by decide +kernel
theorem dL_orders_69 : decode cL_orders 69 = .ok (.iconst 0, 1) := by decide +kernel
theorem dL_orders_70 : decode cL_orders 70 = .ok (.istore 6, 2) := by decide +kernel
theorem dL_orders_72 : decode cL_orders 72 = .ok (.aload_n 0, 1) := by decide +kernel
theorem dL_orders_73 : decode cL_orders 73 = .ok (.iconst 5, 1) := by decide +kernel
theorem dL_orders_74 : decode cL_orders 74 = .ok (.invokevirtual 13, 3) := by decide +kernel
theorem dL_orders_77 : decode cL_orders 77 = .ok (.istore 7, 2) := by decide +kernel
theorem dL_orders_79 : decode cL_orders 79 = .ok (.aload_n 0, 1) := by decide +kernel
theorem dL_orders_80 : decode cL_orders 80 = .ok (.iload 5, 2) := by decide +kernel
theorem dL_orders_82 : decode cL_orders 82 = .ok (.iload 6, 2) := by decide +kernel
theorem dL_orders_84 : decode cL_orders 84 = .ok (.invokevirtual 100, 3) := by decide +kernel
theorem dL_orders_87 : decode cL_orders 87 = .ok (.istore 8, 2) := by decide +kernel
theorem dL_orders_89 : decode cL_orders 89 = .ok (.iload 8, 2) := by decide +kernel
theorem dL_orders_91 : decode cL_orders 91 = .ok (.bipush (-5), 2) := by decide +kernel
theorem dL_orders_93 : decode cL_orders 93 = .ok (.if_icmp .ne 21, 3) := by decide +kernel
theorem dL_orders_96 : decode cL_orders 96 = .ok (.aload_n 0, 1) := by decide +kernel
theorem dL_orders_97 : decode cL_orders 97 = .ok (.iconst 5, 1) := by decide +kernel
theorem dL_orders_98 : decode cL_orders 98 = .ok (.invokevirtual 13, 3) := by decide +kernel
theorem dL_orders_101 : decode cL_orders 101 = .ok (.iload 7, 2) := by decide +kernel
theorem dL_orders_103 : decode cL_orders 103 = .ok (.if_icmp .ne 7, 3) := by decide +kernel
theorem dL_orders_106 : decode cL_orders 106 = .ok (.iconst 1, 1) := by decide +kernel
theorem dL_orders_107 : decode cL_orders 107 = .ok (.goto 44, 3) := by decide +kernel
theorem dL_orders_110 : decode cL_orders 110 = .ok (.iconst 0, 1) := by decide +kernel
theorem dL_orders_111 : decode cL_orders 111 = .ok (.goto 40, 3) := by decide +kernel
theorem dL_orders_114 : decode cL_orders 114 = .ok (.iload 8, 2) := by decide +kernel
theorem dL_orders_116 : decode cL_orders 116 = .ok (.aload_n 0, 1) := by decide +kernel
theorem dL_orders_117 : decode cL_orders 117 = .ok (.iconst 5, 1) := by decide +kernel
theorem dL_orders_118 : decode cL_orders 118 = .ok (.invokevirtual 13, 3) := by decide +kernel
theorem dL_orders_121 : decode cL_orders 121 = .ok (.if_icmp .ne 29, 3) := by decide +kernel
theorem dL_orders_124 : decode cL_orders 124 = .ok (.iload 6, 2) := by decide +kernel
theorem dL_orders_126 : decode cL_orders 126 = .ok (.ifCond .eq 13, 3) := by decide +kernel
theorem dL_orders_129 : decode cL_orders 129 = .ok (.iload 8, 2) := by decide +kernel
theorem dL_orders_131 : decode cL_orders 131 = .ok (.iload 7, 2) := by decide +kernel
theorem dL_orders_133 : decode cL_orders 133 = .ok (.if_icmp .le 17, 3) := by decide +kernel
theorem dL_orders_136 : decode cL_orders 136 = .ok (.goto 10, 3) := by decide +kernel
theorem dL_orders_139 : decode cL_orders 139 = .ok (.iload 8, 2) := by decide +kernel
theorem dL_orders_141 : decode cL_orders 141 = .ok (.iload 7, 2) := by decide +kernel
theorem dL_orders_143 : decode cL_orders 143 = .ok (.if_icmp .ge 7, 3) := by decide +kernel
theorem dL_orders_146 : decode cL_orders 146 = .ok (.iconst 1, 1) := by decide +kernel
theorem dL_orders_147 : decode cL_orders 147 = .ok (.goto 4, 3) := by decide +kernel
theorem dL_orders_150 : decode cL_orders 150 = .ok (.iconst 0, 1) := by decide +kernel
theorem dL_orders_151 : decode cL_orders 151 = .ok (.ireturn, 1) := by decide +kernel
theorem dL_orders_152 : decode cL_orders 152 = .ok (.iload_n 1, 1) := by decide +kernel
theorem dL_orders_153 : decode cL_orders 153 = .ok (.bipush 14, 2) := by decide +kernel
theorem dL_orders_155 : decode cL_orders 155 = .ok (.if_icmp .ge 178, 3) := by decide +kernel
theorem dL_orders_158 : decode cL_orders 158 = .ok (.aload_n 0, 1) := by decide +kernel
theorem dL_orders_159 : decode cL_orders 159 = .ok (.bipush 7, 2) := by decide +kernel
theorem dL_orders_161 : decode cL_orders 161 = .ok (.invokevirtual 13, 3) := by decide +kernel
theorem dL_orders_164 : decode cL_orders 164 = .ok (.istore 5, 2) := by decide +kernel
theorem dL_orders_166 : decode cL_orders 166 = .ok (.aload_n 0, 1) := by decide +kernel
theorem dL_orders_167 : decode cL_orders 167 = .ok (.bipush 8, 2) := by decide +kernel
theorem dL_orders_169 : decode cL_orders 169 = .ok (.invokevirtual 13, 3) := by decide +kernel
theorem dL_orders_172 : decode cL_orders 172 = .ok (.istore 6, 2) := by decide +kernel
theorem dL_orders_174 : decode cL_orders 174 = .ok (.iconst 2, 1) := by decide +kernel
theorem dL_orders_175 : decode cL_orders 175 = .ok (.aload_n 0, 1) := by decide +kernel
theorem dL_orders_176 : decode cL_orders 176 = .ok (.iconst 5, 1) := by decide +kernel
theorem dL_orders_177 : decode cL_orders 177 = .ok (.invokevirtual 13, 3) := by decide +kernel
theorem dL_orders_180 : decode cL_orders 180 = .ok (.imul, 1) := by decide +kernel
theorem dL_orders_181 : decode cL_orders 181 = .ok (.aload_n 0, 1) := by decide +kernel
theorem dL_orders_182 : decode cL_orders 182 = .ok (.bipush 6, 2) := by decide +kernel
theorem dL_orders_184 : decode cL_orders 184 = .ok (.invokevirtual 13, 3) := by decide +kernel
theorem dL_orders_187 : decode cL_orders 187 = .ok (.if_icmp .le 14, 3) := by decide +kernel
theorem dL_orders_190 : decode cL_orders 190 = .ok (.aload_n 0, 1) := by decide +kernel
theorem dL_orders_191 : decode cL_orders 191 = .ok (.invokevirtual 33, 3) := by decide +kernel
theorem dL_orders_194 : decode cL_orders 194 = .ok (.ifCond .eq 7, 3) := by decide +kernel
theorem dL_orders_197 : decode cL_orders 197 = .ok (.iconst 1, 1) := by decide +kernel
theorem dL_orders_198 : decode cL_orders 198 = .ok (.goto 4, 3) := by decide +kernel
theorem dL_orders_201 : decode cL_orders 201 = .ok (.iconst 0, 1) := by decide +kernel
theorem dL_orders_202 : decode cL_orders 202 = .ok (.istore 7, 2) := by decide +kernel
theorem dL_orders_204 : decode cL_orders 204 = .ok (.aload_n 0, 1) := by decide +kernel
theorem dL_orders_205 : decode cL_orders 205 = .ok (.iconst 0, 1) := by decide +kernel
theorem dL_orders_206 : decode cL_orders 206 = .ok (.invokevirtual 37, 3) := by decide +kernel
theorem dL_orders_209 : decode cL_orders 209 = .ok (.aload_n 0, 1) := by decide +kernel
theorem dL_orders_210 : decode cL_orders 210 = .ok (.iconst 2, 1) := by decide +kernel
theorem dL_orders_211 : decode cL_orders 211 = .ok (.invokevirtual 37, 3) := by decide +kernel
theorem dL_orders_214 : decode cL_orders 214 = .ok (.dcmp .g, 1) := by decide +kernel
theorem dL_orders_215 : decode cL_orders 215 = .ok (.ifCond .ge 7, 3) := by decide +kernel
theorem dL_orders_218 : decode cL_orders 218 = .ok (.iconst 1, 1) := by decide +kernel
theorem dL_orders_219 : decode cL_orders 219 = .ok (.goto 4, 3) := by decide +kernel
theorem dL_orders_222 : decode cL_orders 222 = .ok (.iconst 0, 1) := by decide +kernel
theorem dL_orders_223 : decode cL_orders 223 = .ok (.istore 8, 2) := by decide +kernel
theorem dL_orders_225 : decode cL_orders 225 = .ok (.aload_n 0, 1) := by decide +kernel
theorem dL_orders_226 : decode cL_orders 226 = .ok (.invokevirtual 103, 3) := by decide +kernel
theorem dL_orders_229 : decode cL_orders 229 = .ok (.istore 9, 2) := by decide +kernel
theorem dL_orders_231 : decode cL_orders 231 = .ok (.iload 7, 2) := by decide +kernel
theorem dL_orders_233 : decode cL_orders 233 = .ok (.ifCond .eq 9, 3) := by decide +kernel
theorem dL_orders_236 : decode cL_orders 236 = .ok (.iload 4, 2) := by decide +kernel
theorem dL_orders_238 : decode cL_orders 238 = .ok (.iconst 1, 1) := by decide +kernel
theorem dL_orders_239 : decode cL_orders 239 = .ok (.if_icmp .ne 37, 3) := by decide +kernel
theorem dL_orders_242 : decode cL_orders 242 = .ok (.iload 9, 2) := by decide +kernel
theorem dL_orders_244 : decode cL_orders 244 = .ok (.iload 7, 2) := by decide +kernel
theorem dL_orders_246 : decode cL_orders 246 = .ok (.ifCond .eq 8, 3) := by decide +kernel
theorem dL_orders_249 : decode cL_orders 249 = .ok (.bipush (-5), 2) := by decide +kernel
theorem dL_orders_251 : decode cL_orders 251 = .ok (.goto 5, 3) := by decide +kernel
theorem dL_orders_254 : decode cL_orders 254 = .ok (.bipush (-4), 2) := by decide +kernel
theorem dL_orders_256 : decode cL_orders 256 = .ok (.if_icmp .ne 18, 3) := by decide +kernel
theorem dL_orders_259 : decode cL_orders 259 = .ok (.aload_n 0, 1) := by decide +kernel
theorem dL_orders_260 : decode cL_orders 260 = .ok (.bipush 7, 2) := by decide +kernel
theorem dL_orders_262 : decode cL_orders 262 = .ok (.invokevirtual 13, 3) := by decide +kernel
theorem dL_orders_265 : decode cL_orders 265 = .ok (.iload 5, 2) := by decide +kernel
theorem dL_orders_267 : decode cL_orders 267 = .ok (.if_icmp .ne 7, 3) := by decide +kernel
theorem dL_orders_270 : decode cL_orders 270 = .ok (.iconst 1, 1) := by decide +kernel
theorem dL_orders_271 : decode cL_orders 271 = .ok (.goto 4, 3) := by decide +kernel
theorem dL_orders_274 : decode cL_orders 274 = .ok (.iconst 0, 1) := by decide +kernel
theorem dL_orders_275 : decode cL_orders 275 = .ok (.ireturn, 1) := by decide +kernel
theorem dL_orders_276 : decode cL_orders 276 = .ok (.iload 9, 2) := by decide +kernel
theorem dL_orders_278 : decode cL_orders 278 = .ok (.iload 8, 2) := by decide +kernel
theorem dL_orders_280 : decode cL_orders 280 = .ok (.ifCond .eq 7, 3) := by decide +kernel
theorem dL_orders_283 : decode cL_orders 283 = .ok (.iconst 1, 1) := by decide +kernel
theorem dL_orders_284 : decode cL_orders 284 = .ok (.goto 4, 3) := by decide +kernel
theorem dL_orders_287 : decode cL_orders 287 = .ok (.iconst 0, 1) := by decide +kernel
theorem dL_orders_288 : decode cL_orders 288 = .ok (.if_icmp .ne 43, 3) := by decide +kernel
theorem dL_orders_291 : decode cL_orders 291 = .ok (.aload_n 0, 1) := by decide +kernel
theorem dL_orders_292 : decode cL_orders 292 = .ok (.iconst 1, 1) := by decide +kernel
theorem dL_orders_293 : decode cL_orders 293 = .ok (.invokevirtual 13, 3) := by decide +kernel
theorem dL_orders_296 : decode cL_orders 296 = .ok (.iconst 1, 1) := by decide +kernel
theorem dL_orders_297 : decode cL_orders 297 = .ok (.if_icmp .ne 34, 3) := by decide +kernel
theorem dL_orders_300 : decode cL_orders 300 = .ok (.aload_n 0, 1) := by decide +kernel
theorem dL_orders_301 : decode cL_orders 301 = .ok (.bipush 7, 2) := by decide +kernel
theorem dL_orders_303 : decode cL_orders 303 = .ok (.invokevirtual 13, 3) := by decide +kernel
theorem dL_orders_306 : decode cL_orders 306 = .ok (.iload 5, 2) := by decide +kernel
theorem dL_orders_308 : decode cL_orders 308 = .ok (.iconst 1, 1) := by decide +kernel
theorem dL_orders_309 : decode cL_orders 309 = .ok (.iadd, 1) := by decide +kernel
theorem dL_orders_310 : decode cL_orders 310 = .ok (.if_icmp .ne 21, 3) := by decide +kernel
theorem dL_orders_313 : decode cL_orders 313 = .ok (.aload_n 0, 1) := by decide +kernel
theorem dL_orders_314 : decode cL_orders 314 = .ok (.bipush 8, 2) := by decide +kernel
theorem dL_orders_316 : decode cL_orders 316 = .ok (.invokevirtual 13, 3) := by decide +kernel
theorem dL_orders_319 : decode cL_orders 319 = .ok (.iload 6, 2) := by decide +kernel
theorem dL_orders_321 : decode cL_orders 321 = .ok (.iload 9, 2) := by decide +kernel
theorem dL_orders_323 : decode cL_orders 323 = .ok (.iadd, 1) := by decide +kernel
theorem dL_orders_324 : decode cL_orders 324 = .ok (.if_icmp .ne 7, 3) := by decide +kernel
theorem dL_orders_327 : decode cL_orders 327 = .ok (.iconst 1, 1) := by decide +kernel
theorem dL_orders_328 : decode cL_orders 328 = .ok (.goto 4, 3) := by decide +kernel
theorem dL_orders_331 : decode cL_orders 331 = .ok (.iconst 0, 1) := by decide +kernel
theorem dL_orders_332 : decode cL_orders 332 = .ok (.ireturn, 1) := by decide +kernel
theorem dL_orders_333 : decode cL_orders 333 = .ok (.iload_n 1, 1) := by decide +kernel
theorem dL_orders_334 : decode cL_orders 334 = .ok (.bipush 14, 2) := by decide +kernel
theorem dL_orders_336 : decode cL_orders 336 = .ok (.if_icmp .ne 83, 3) := by decide +kernel
theorem dL_orders_339 : decode cL_orders 339 = .ok (.aload_n 0, 1) := by decide +kernel
theorem dL_orders_340 : decode cL_orders 340 = .ok (.invokevirtual 106, 3) := by decide +kernel
theorem dL_orders_343 : decode cL_orders 343 = .ok (.istore 5, 2) := by decide +kernel
theorem dL_orders_345 : decode cL_orders 345 = .ok (.aload_n 0, 1) := by decide +kernel
theorem dL_orders_346 : decode cL_orders 346 = .ok (.iconst 3, 1) := by decide +kernel
theorem dL_orders_347 : decode cL_orders 347 = .ok (.invokevirtual 13, 3) := by decide +kernel
theorem dL_orders_350 : decode cL_orders 350 = .ok (.ifCond .gt 11, 3) := by decide +kernel
theorem dL_orders_353 : decode cL_orders 353 = .ok (.aload_n 0, 1) := by decide +kernel
theorem dL_orders_354 : decode cL_orders 354 = .ok (.iconst 2, 1) := by decide +kernel
theorem dL_orders_355 : decode cL_orders 355 = .ok (.invokevirtual 13, 3) := by decide +kernel
theorem dL_orders_358 : decode cL_orders 358 = .ok (.ifCond .lt 7, 3) := by decide +kernel
theorem dL_orders_361 : decode cL_orders 361 = .ok (.iconst 1, 1) := by decide +kernel
theorem dL_orders_362 : decode cL_orders 362 = .ok (.goto 4, 3) := by decide +kernel
theorem dL_orders_365 : decode cL_orders 365 = .ok (.iconst 0, 1) := by decide +kernel
theorem dL_orders_366 : decode cL_orders 366 = .ok (.istore 6, 2) := by decide +kernel
theorem dL_orders_368 : decode cL_orders 368 = .ok (.iload 5, 2) := by decide +kernel
theorem dL_orders_370 : decode cL_orders 370 = .ok (.iload 6, 2) := by decide +kernel
theorem dL_orders_372 : decode cL_orders 372 = .ok (.ifCond .ne 8, 3) := by decide +kernel
theorem dL_orders_375 : decode cL_orders 375 = .ok (.bipush (-4), 2) := by decide +kernel
theorem dL_orders_377 : decode cL_orders 377 = .ok (.goto 19, 3) := by decide +kernel
theorem dL_orders_380 : decode cL_orders 380 = .ok (.iload 4, 2) := by decide +kernel
theorem dL_orders_382 : decode cL_orders 382 = .ok (.iconst 2, 1) := by decide +kernel
theorem dL_orders_383 : decode cL_orders 383 = .ok (.if_icmp .ne 8, 3) := by decide +kernel
theorem dL_orders_386 : decode cL_orders 386 = .ok (.bipush (-5), 2) := by decide +kernel
theorem dL_orders_388 : decode cL_orders 388 = .ok (.goto 8, 3) := by decide +kernel
theorem dL_orders_391 : decode cL_orders 391 = .ok (.aload_n 0, 1) := by decide +kernel
theorem dL_orders_392 : decode cL_orders 392 = .ok (.iconst 3, 1) := by decide +kernel
theorem dL_orders_393 : decode cL_orders 393 = .ok (.invokevirtual 13, 3) := by decide +kernel
theorem dL_orders_396 : decode cL_orders 396 = .ok (.if_icmp .ne 21, 3) := by decide +kernel
theorem dL_orders_399 : decode cL_orders 399 = .ok (.iload 6, 2) := by decide +kernel
theorem dL_orders_401 : decode cL_orders 401 = .ok (.ifCond .eq 12, 3) := by decide +kernel
theorem dL_orders_404 : decode cL_orders 404 = .ok (.aload_n 0, 1) := by decide +kernel
theorem dL_orders_405 : decode cL_orders 405 = .ok (.iconst 1, 1) := by decide +kernel
theorem dL_orders_406 : decode cL_orders 406 = .ok (.invokevirtual 13, 3) := by decide +kernel
theorem dL_orders_409 : decode cL_orders 409 = .ok (.iconst 2, 1) := by decide +kernel
theorem dL_orders_410 : decode cL_orders 410 = .ok (.if_icmp .ne 7, 3) := by decide +kernel
theorem dL_orders_413 : decode cL_orders 413 = .ok (.iconst 1, 1) := by decide +kernel
theorem dL_orders_414 : decode cL_orders 414 = .ok (.goto 4, 3) := by decide +kernel
theorem dL_orders_417 : decode cL_orders 417 = .ok (.iconst 0, 1) := by decide +kernel
theorem dL_orders_418 : decode cL_orders 418 = .ok (.ireturn, 1) := by decide +kernel
theorem dL_orders_419 : decode cL_orders 419 = .ok (.aload_n 0, 1) := by decide +kernel
theorem dL_orders_420 : decode cL_orders 420 = .ok (.bipush 11, 2) := by decide +kernel
theorem dL_orders_422 : decode cL_orders 422 = .ok (.invokevirtual 13, 3) := by decide +kernel
theorem dL_orders_425 : decode cL_orders 425 = .ok (.ifCond .ne 18, 3) := by decide +kernel
theorem dL_orders_428 : decode cL_orders 428 = .ok (.aload_n 0, 1) := by decide +kernel
theorem dL_orders_429 : decode cL_orders 429 = .ok (.iconst 0, 1) := by decide +kernel
theorem dL_orders_430 : decode cL_orders 430 = .ok (.invokevirtual 109, 3) := by decide +kernel
theorem dL_orders_433 : decode cL_orders 433 = .ok (.iconst (-1), 1) := by decide +kernel
theorem dL_orders_434 : decode cL_orders 434 = .ok (.if_icmp .ne 7, 3) := by decide +kernel
theorem dL_orders_437 : decode cL_orders 437 = .ok (.iconst 1, 1) := by decide +kernel
theorem dL_orders_438 : decode cL_orders 438 = .ok (.goto 4, 3) := by decide +kernel
theorem dL_orders_441 : decode cL_orders 441 = .ok (.iconst 0, 1) := by decide +kernel
theorem dL_orders_442 : decode cL_orders 442 = .ok (.ireturn, 1) := by decide +kernel
theorem dL_orders_443 : decode cL_orders 443 = .ok (.iload_n 3, 1) := by decide +kernel
theorem dL_orders_444 : decode cL_orders 444 = .ok (.aload_n 0, 1) := by decide +kernel
theorem dL_orders_445 : decode cL_orders 445 = .ok (.bipush 11, 2) := by decide +kernel
theorem dL_orders_447 : decode cL_orders 447 = .ok (.invokevirtual 13, 3) := by decide +kernel
theorem dL_orders_450 : decode cL_orders 450 = .ok (.invokestatic 56, 3) := by decide +kernel
theorem dL_orders_453 : decode cL_orders 453 = .ok (.istore 5, 2) := by decide +kernel
theorem dL_orders_455 : decode cL_orders 455 = .ok (.aload_n 0, 1) := by decide +kernel
theorem dL_orders_456 : decode cL_orders 456 = .ok (.iload 5, 2) := by decide +kernel
theorem dL_orders_458 : decode cL_orders 458 = .ok (.iconst 3, 1) := by decide +kernel
theorem dL_orders_459 : decode cL_orders 459 = .ok (.invokevirtual 23, 3) := by decide +kernel
theorem dL_orders_462 : decode cL_orders 462 = .ok (.istore 6, 2) := by decide +kernel
theorem dL_orders_464 : decode cL_orders 464 = .ok (.aload_n 0, 1) := by decide +kernel
theorem dL_orders_465 : decode cL_orders 465 = .ok (.iload 5, 2) := by decide +kernel
theorem dL_orders_467 : decode cL_orders 467 = .ok (.iconst 5, 1) := by decide +kernel
theorem dL_orders_468 : decode cL_orders 468 = .ok (.invokevirtual 23, 3) := by decide +kernel
theorem dL_orders_471 : decode cL_orders 471 = .ok (.istore 7, 2) := by decide +kernel
theorem dL_orders_473 : decode cL_orders 473 = .ok (.aload_n 0, 1) := by decide +kernel
theorem dL_orders_474 : decode cL_orders 474 = .ok (.iload 5, 2) := by decide +kernel
theorem dL_orders_476 : decode cL_orders 476 = .ok (.invokevirtual 109, 3) := by decide +kernel
theorem dL_orders_479 : decode cL_orders 479 = .ok (.istore 8, 2) := by decide +kernel
theorem dL_orders_481 : decode cL_orders 481 = .ok (.iload 6, 2) := by decide +kernel
theorem dL_orders_483 : decode cL_orders 483 = .ok (.ifCond .eq 24, 3) := by decide +kernel
theorem dL_orders_486 : decode cL_orders 486 = .ok (.iload 6, 2) := by decide +kernel
theorem dL_orders_488 : decode cL_orders 488 = .ok (.iconst 4, 1) := by decide +kernel
theorem dL_orders_489 : decode cL_orders 489 = .ok (.if_icmp .eq 18, 3) := by decide +kernel
theorem dL_orders_492 : decode cL_orders 492 = .ok (.iload 8, 2) := by decide +kernel
theorem dL_orders_494 : decode cL_orders 494 = .ok (.bipush (-4), 2) := by decide +kernel
theorem dL_orders_496 : decode cL_orders 496 = .ok (.if_icmp .ne 7, 3) := by decide +kernel
theorem dL_orders_499 : decode cL_orders 499 = .ok (.iconst 1, 1) := by decide +kernel
theorem dL_orders_500 : decode cL_orders 500 = .ok (.goto 64, 3) := by decide +kernel
theorem dL_orders_503 : decode cL_orders 503 = .ok (.iconst 0, 1) := by decide +kernel
theorem dL_orders_504 : decode cL_orders 504 = .ok (.goto 60, 3) := by decide +kernel
theorem dL_orders_507 : decode cL_orders 507 = .ok (.iload 6, 2) := by decide +kernel
theorem dL_orders_509 : decode cL_orders 509 = .ok (.ifCond .ne 23, 3) := by decide +kernel
theorem dL_orders_512 : decode cL_orders 512 = .ok (.iload 7, 2) := by decide +kernel
theorem dL_orders_514 : decode cL_orders 514 = .ok (.ifCond .ne 18, 3) := by decide +kernel
theorem dL_orders_517 : decode cL_orders 517 = .ok (.iload 8, 2) := by decide +kernel
theorem dL_orders_519 : decode cL_orders 519 = .ok (.bipush (-5), 2) := by decide +kernel
theorem dL_orders_521 : decode cL_orders 521 = .ok (.if_icmp .ne 7, 3) := by decide +kernel
theorem dL_orders_524 : decode cL_orders 524 = .ok (.iconst 1, 1) := by decide +kernel
theorem dL_orders_525 : decode cL_orders 525 = .ok (.goto 39, 3) := by decide +kernel
theorem dL_orders_528 : decode cL_orders 528 = .ok (.iconst 0, 1) := by decide +kernel
theorem dL_orders_529 : decode cL_orders 529 = .ok (.goto 35, 3) := by decide +kernel
theorem dL_orders_532 : decode cL_orders 532 = .ok (.iload 8, 2) := by decide +kernel
theorem dL_orders_534 : decode cL_orders 534 = .ok (.iload 7, 2) := by decide +kernel
theorem dL_orders_536 : decode cL_orders 536 = .ok (.if_icmp .ne 27, 3) := by decide +kernel
theorem dL_orders_539 : decode cL_orders 539 = .ok (.aload_n 0, 1) := by decide +kernel
theorem dL_orders_540 : decode cL_orders 540 = .ok (.iload 5, 2) := by decide +kernel
theorem dL_orders_542 : decode cL_orders 542 = .ok (.iconst 3, 1) := by decide +kernel
theorem dL_orders_543 : decode cL_orders 543 = .ok (.invokevirtual 23, 3) := by decide +kernel
theorem dL_orders_546 : decode cL_orders 546 = .ok (.ifCond .ne 17, 3) := by decide +kernel
theorem dL_orders_549 : decode cL_orders 549 = .ok (.aload_n 0, 1) := by decide +kernel
theorem dL_orders_550 : decode cL_orders 550 = .ok (.iload 5, 2) := by decide +kernel
theorem dL_orders_552 : decode cL_orders 552 = .ok (.iconst 5, 1) := by decide +kernel
theorem dL_orders_553 : decode cL_orders 553 = .ok (.invokevirtual 23, 3) := by decide +kernel
theorem dL_orders_556 : decode cL_orders 556 = .ok (.ifCond .ne 7, 3) := by decide +kernel
theorem dL_orders_559 : decode cL_orders 559 = .ok (.iconst 1, 1) := by decide +kernel
theorem dL_orders_560 : decode cL_orders 560 = .ok (.goto 4, 3) := by decide +kernel
theorem dL_orders_563 : decode cL_orders 563 = .ok (.iconst 0, 1) := by decide +kernel
theorem dL_orders_564 : decode cL_orders 564 = .ok (.ireturn, 1) := by decide +kernel
theorem dL_passes_0 : decode cL_passes 0 = .ok (.aload_n 0, 1) := by decide +kernel
theorem dL_passes_1 : decode cL_passes 1 = .ok (.invokevirtual 112, 3) := by decide +kernel
theorem dL_passes_4 : decode cL_passes 4 = .ok (.istore_n 3, 1) := by decide +kernel
theorem dL_passes_5 : decode cL_passes 5 = .ok (.aload_n 0, 1) := by decide +kernel
theorem dL_passes_6 : decode cL_passes 6 = .ok (.invokevirtual 33, 3) := by decide +kernel
theorem dL_passes_9 : decode cL_passes 9 = .ok (.istore 4, 2) := by decide +kernel
theorem dL_passes_11 : decode cL_passes 11 = .ok (.aload_n 0, 1) := by decide +kernel
theorem dL_passes_12 : decode cL_passes 12 = .ok (.iload_n 1, 1) := by decide +kernel
theorem dL_passes_13 : decode cL_passes 13 = .ok (.iload_n 2, 1) := by decide +kernel
theorem dL_passes_14 : decode cL_passes 14 = .ok (.iadd, 1) := by decide +kernel
theorem dL_passes_15 : decode cL_passes 15 = .ok (.invokevirtual 41, 3) := by decide +kernel
theorem dL_passes_18 : decode cL_passes 18 = .ok (.dstore 5, 2) := by decide +kernel
theorem dL_passes_20 : decode cL_passes 20 = .ok (.aload_n 0, 1) := by decide +kernel
theorem dL_passes_21 : decode cL_passes 21 = .ok (.iconst 4, 1) := by decide +kernel
theorem dL_passes_22 : decode cL_passes 22 = .ok (.invokevirtual 13, 3) := by decide +kernel
theorem dL_passes_25 : decode cL_passes 25 = .ok (.istore 7, 2) := by decide +kernel
theorem dL_passes_27 : decode cL_passes 27 = .ok (.aload_n 0, 1) := by decide +kernel
theorem dL_passes_28 : decode cL_passes 28 = .ok (.iload_n 1, 1) := by decide +kernel
theorem dL_passes_29 : decode cL_passes 29 = .ok (.iload_n 2, 1) := by decide +kernel
theorem dL_passes_30 : decode cL_passes 30 = .ok (.iadd, 1) := by decide +kernel
theorem dL_passes_31 : decode cL_passes 31 = .ok (.invokevirtual 115, 3) := by decide +kernel
theorem dL_passes_34 : decode cL_passes 34 = .ok (.istore 8, 2) := by decide +kernel
theorem dL_passes_36 : decode cL_passes 36 = .ok (.aload_n 0, 1) := by decide +kernel
theorem dL_passes_37 : decode cL_passes 37 = .ok (.invokestatic 118, 3) := by decide +kernel
theorem dL_passes_40 : decode cL_passes 40 = .ok (.lstore 9, 2) := by decide +kernel
theorem dL_passes_42 : decode cL_passes 42 = .ok (.aload_n 0, 1) := by decide +kernel
theorem dL_passes_43 : decode cL_passes 43 = .ok (.invokevirtual 33, 3) := by decide +kernel
theorem dL_passes_46 : decode cL_passes 46 = .ok (.istore 11, 2) := by decide +kernel
theorem dL_passes_48 : decode cL_passes 48 = .ok (.iload 4, 2) := by decide +kernel
theorem dL_passes_50 : decode cL_passes 50 = .ok (.ifCond .lt 11, 3) := by decide +kernel
theorem dL_passes_53 : decode cL_passes 53 = .ok (.iload 4, 2) := by decide +kernel
theorem dL_passes_55 : decode cL_passes 55 = .ok (.iload_n 1, 1) := by decide +kernel
theorem dL_passes_56 : decode cL_passes 56 = .ok (.iload_n 2, 1) := by decide +kernel
theorem dL_passes_57 : decode cL_passes 57 = .ok (.iadd, 1) := by decide +kernel
theorem dL_passes_58 : decode cL_passes 58 = .ok (.if_icmp .le 16, 3) := by decide +kernel
theorem dL_passes_61 : decode cL_passes 61 = .ok (.iload 11, 2) := by decide +kernel
theorem dL_passes_63 : decode cL_passes 63 = .ok (.ifCond .eq 7, 3) := by decide +kernel
theorem dL_passes_66 : decode cL_passes 66 = .ok (.iconst 1, 1) := by decide +kernel
theorem dL_passes_67 : decode cL_passes 67 = .ok (.goto 8, 3) := by decide +kernel
theorem dL_passes_70 : decode cL_passes 70 = .ok (.iconst 0, 1) := by decide +kernel
theorem dL_passes_71 : decode cL_passes 71 = .ok (.goto 4, 3) := by decide +kernel
theorem dL_passes_74 : decode cL_passes 74 = .ok (.iconst 1, 1) := by decide +kernel
theorem dL_passes_75 : decode cL_passes 75 = .ok (.istore 12, 2) := by decide +kernel
theorem dL_passes_77 : decode cL_passes 77 = .ok (.iload 12, 2) := by decide +kernel
theorem dL_passes_79 : decode cL_passes 79 = .ok (.ifCond .eq 77, 3) := by decide +kernel
theorem dL_passes_82 : decode cL_passes 82 = .ok (.iload 4, 2) := by decide +kernel
theorem dL_passes_84 : decode cL_passes 84 = .ok (.ifCond .lt 16, 3) := by decide +kernel
theorem dL_passes_87 : decode cL_passes 87 = .ok (.iload 4, 2) := by decide +kernel
theorem dL_passes_89 : decode cL_passes 89 = .ok (.iload_n 1, 1) := by decide +kernel
theorem dL_passes_90 : decode cL_passes 90 = .ok (.iload_n 2, 1) := by decide +kernel
theorem dL_passes_91 : decode cL_passes 91 = .ok (.iadd, 1) := by decide +kernel
theorem dL_passes_92 : decode cL_passes 92 = .ok (.if_icmp .ne 8, 3) := by decide +kernel
theorem dL_passes_95 : decode cL_passes 95 = .ok (.iload 11, 2) := by decide +kernel
theorem dL_passes_97 : decode cL_passes 97 = .ok (.ifCond .ne 59, 3) := by decide +kernel
theorem dL_passes_100 : decode cL_passes 100 = .ok (.aload_n 0, 1) := by decide +kernel
theorem dL_passes_101 : decode cL_passes 101 = .ok (.iconst 1, 1) := by decide +kernel
theorem dL_passes_102 : decode cL_passes 102 = .ok (.invokevirtual 37, 3) := by decide +kernel
theorem dL_passes_105 : decode cL_passes 105 = .ok (.dload 5, 2) := by decide +kernel
theorem dL_passes_107 : decode cL_passes 107 = .ok (.dcmp .l, 1) := by decide +kernel
theorem dL_passes_108 : decode cL_passes 108 = .ok (.ifCond .ne 48, 3) := by decide +kernel
theorem dL_passes_111 : decode cL_passes 111 = .ok (.aload_n 0, 1) := by decide +kernel
theorem dL_passes_112 : decode cL_passes 112 = .ok (.iconst 4, 1) := by decide +kernel
theorem dL_passes_113 : decode cL_passes 113 = .ok (.invokevirtual 13, 3) := by decide +kernel
theorem dL_passes_116 : decode cL_passes 116 = .ok (.iload 7, 2) := by decide +kernel
theorem dL_passes_118 : decode cL_passes 118 = .ok (.iload 8, 2) := by decide +kernel
theorem dL_passes_120 : decode cL_passes 120 = .ok (.iadd, 1) := by decide +kernel
theorem dL_passes_121 : decode cL_passes 121 = .ok (.if_icmp .ne 35, 3) := by decide +kernel
theorem dL_passes_124 : decode cL_passes 124 = .ok (.aload_n 0, 1) := by decide +kernel
theorem dL_passes_125 : decode cL_passes 125 = .ok (.iconst 0, 1) := by decide +kernel
theorem dL_passes_126 : decode cL_passes 126 = .ok (.invokevirtual 13, 3) := by decide +kernel
theorem dL_passes_129 : decode cL_passes 129 = .ok (.iload_n 3, 1) := by decide +kernel
theorem dL_passes_130 : decode cL_passes 130 = .ok (.iload_n 1, 1) := by decide +kernel
theorem dL_passes_131 : decode cL_passes 131 = .ok (.iadd, 1) := by decide +kernel
theorem dL_passes_132 : decode cL_passes 132 = .ok (.iload_n 2, 1) := by decide +kernel
theorem dL_passes_133 : decode cL_passes 133 = .ok (.iadd, 1) := by decide +kernel
theorem dL_passes_134 : decode cL_passes 134 = .ok (.if_icmp .ne 22, 3) := by decide +kernel
theorem dL_passes_137 : decode cL_passes 137 = .ok (.aload_n 0, 1) := by decide +kernel
theorem dL_passes_138 : decode cL_passes 138 = .ok (.invokevirtual 122, 3) := by decide +kernel
theorem dL_passes_141 : decode cL_passes 141 = .ok (.iload_n 3, 1) := by decide +kernel
theorem dL_passes_142 : decode cL_passes 142 = .ok (.if_icmp .ne 14, 3) := by decide +kernel
theorem dL_passes_145 : decode cL_passes 145 = .ok (.aload_n 0, 1) := by decide +kernel
theorem dL_passes_146 : decode cL_passes 146 = .ok (.bipush 49, 2) := by decide +kernel
theorem dL_passes_148 : decode cL_passes 148 = .ok (.invokevirtual 115, 3) := by decide +kernel
theorem dL_passes_151 : decode cL_passes 151 = .ok (.bipush (-2), 2) := by decide +kernel
theorem dL_passes_153 : decode cL_passes 153 = .ok (.if_icmp .eq 5, 3) := by decide +kernel
theorem dL_passes_156 : decode cL_passes 156 = .ok (.iconst 0, 1) := by decide +kernel
theorem dL_passes_157 : decode cL_passes 157 = .ok (.ireturn, 1) := by decide +kernel
theorem dL_passes_158 : decode cL_passes 158 = .ok (.aload_n 0, 1) := by decide +kernel
theorem dL_passes_159 : decode cL_passes 159 = .ok (.iload_n 1, 1) := by decide +kernel
theorem dL_passes_160 : decode cL_passes 160 = .ok (.invokevirtual 115, 3) := by decide +kernel
theorem dL_passes_163 : decode cL_passes 163 = .ok (.istore 13, 2) := by decide +kernel
theorem dL_passes_165 : decode cL_passes 165 = .ok (.iload 13, 2) := by decide +kernel
theorem dL_passes_167 : decode cL_passes 167 = .ok (.aload_n 0, 1) := by decide +kernel
theorem dL_passes_168 : decode cL_passes 168 = .ok (.iload_n 2, 1) := by decide +kernel
theorem dL_passes_169 : decode cL_passes 169 = .ok (.invokevirtual 115, 3) := by decide +kernel
theorem dL_passes_172 : decode cL_passes 172 = .ok (.iadd, 1) := by decide +kernel
theorem dL_passes_173 : decode cL_passes 173 = .ok (.iload 8, 2) := by decide +kernel
theorem dL_passes_175 : decode cL_passes 175 = .ok (.if_icmp .ne 17, 3) := by decide +kernel
theorem dL_passes_178 : decode cL_passes 178 = .ok (.aload_n 0, 1) := by decide +kernel
theorem dL_passes_179 : decode cL_passes 179 = .ok (.invokestatic 118, 3) := by decide +kernel
theorem dL_passes_182 : decode cL_passes 182 = .ok (.lload 9, 2) := by decide +kernel
theorem dL_passes_184 : decode cL_passes 184 = .ok (.lcmp, 1) := by decide +kernel
theorem dL_passes_185 : decode cL_passes 185 = .ok (.ifCond .ne 7, 3) := by decide +kernel
theorem dL_passes_188 : decode cL_passes 188 = .ok (.iconst 1, 1) := by decide +kernel
theorem dL_passes_189 : decode cL_passes 189 = .ok (.goto 4, 3) := by decide +kernel
theorem dL_passes_192 : decode cL_passes 192 = .ok (.iconst 0, 1) := by decide +kernel
theorem dL_passes_193 : decode cL_passes 193 = .ok (.ireturn, 1) := by decide +kernel
theorem dL_law_0 : decode cL_law 0 = .ok (.new 14, 3) := by decide +kernel
theorem dL_law_3 : decode cL_law 3 = .ok (.dup, 1) := by decide +kernel
theorem dL_law_4 : decode cL_law 4 = .ok (.invokespecial 125, 3) := by decide +kernel
theorem dL_law_7 : decode cL_law 7 = .ok (.astore_n 1, 1) := by decide +kernel
theorem dL_law_8 : decode cL_law 8 = .ok (.aload_n 1, 1) := by decide +kernel
theorem dL_law_9 : decode cL_law 9 = .ok (.invokevirtual 126, 3) := by decide +kernel
theorem dL_law_12 : decode cL_law 12 = .ok (.bipush (-5), 2) := by decide +kernel
theorem dL_law_14 : decode cL_law 14 = .ok (.if_icmp .ne 90, 3) := by decide +kernel
theorem dL_law_17 : decode cL_law 17 = .ok (.aload_n 1, 1) := by decide +kernel
theorem dL_law_18 : decode cL_law 18 = .ok (.invokevirtual 122, 3) := by decide +kernel
theorem dL_law_21 : decode cL_law 21 = .ok (.bipush (-5), 2) := by decide +kernel
theorem dL_law_23 : decode cL_law 23 = .ok (.if_icmp .ne 81, 3) := by decide +kernel
theorem dL_law_26 : decode cL_law 26 = .ok (.aload_n 1, 1) := by decide +kernel
theorem dL_law_27 : decode cL_law 27 = .ok (.iconst 0, 1) := by decide +kernel
theorem dL_law_28 : decode cL_law 28 = .ok (.invokevirtual 129, 3) := by decide +kernel
theorem dL_law_31 : decode cL_law 31 = .ok (.bipush (-100), 2) := by decide +kernel
theorem dL_law_33 : decode cL_law 33 = .ok (.if_icmp .ne 71, 3) := by decide +kernel
theorem dL_law_36 : decode cL_law 36 = .ok (.aload_n 1, 1) := by decide +kernel
theorem dL_law_37 : decode cL_law 37 = .ok (.bipush 24, 2) := by decide +kernel
theorem dL_law_39 : decode cL_law 39 = .ok (.invokevirtual 129, 3) := by decide +kernel
theorem dL_law_42 : decode cL_law 42 = .ok (.bipush (-2), 2) := by decide +kernel
theorem dL_law_44 : decode cL_law 44 = .ok (.if_icmp .ne 60, 3) := by decide +kernel
theorem dL_law_47 : decode cL_law 47 = .ok (.aload_n 1, 1) := by decide +kernel
theorem dL_law_48 : decode cL_law 48 = .ok (.invokevirtual 103, 3) := by decide +kernel
theorem dL_law_51 : decode cL_law 51 = .ok (.bipush (-4), 2) := by decide +kernel
theorem dL_law_53 : decode cL_law 53 = .ok (.if_icmp .ne 51, 3) := by decide +kernel
theorem dL_law_56 : decode cL_law 56 = .ok (.aload_n 1, 1) := by decide +kernel
theorem dL_law_57 : decode cL_law 57 = .ok (.invokevirtual 106, 3) := by decide +kernel
theorem dL_law_60 : decode cL_law 60 = .ok (.bipush (-4), 2) := by decide +kernel
theorem dL_law_62 : decode cL_law 62 = .ok (.if_icmp .ne 42, 3) := by decide +kernel
theorem dL_law_65 : decode cL_law 65 = .ok (.aload_n 1, 1) := by decide +kernel
theorem dL_law_66 : decode cL_law 66 = .ok (.iconst 0, 1) := by decide +kernel
theorem dL_law_67 : decode cL_law 67 = .ok (.invokevirtual 109, 3) := by decide +kernel
theorem dL_law_70 : decode cL_law 70 = .ok (.iconst (-1), 1) := by decide +kernel
theorem dL_law_71 : decode cL_law 71 = .ok (.if_icmp .ne 33, 3) := by decide +kernel
theorem dL_law_74 : decode cL_law 74 = .ok (.aload_n 1, 1) := by decide +kernel
theorem dL_law_75 : decode cL_law 75 = .ok (.invokevirtual 33, 3) := by decide +kernel
theorem dL_law_78 : decode cL_law 78 = .ok (.ifCond .ne 26, 3) := by decide +kernel
theorem dL_law_81 : decode cL_law 81 = .ok (.aload_n 1, 1) := by decide +kernel
theorem dL_law_82 : decode cL_law 82 = .ok (.bipush 9, 2) := by decide +kernel
theorem dL_law_84 : decode cL_law 84 = .ok (.invokevirtual 13, 3) := by decide +kernel
theorem dL_law_87 : decode cL_law 87 = .ok (.ldc 99, 2) := by decide +kernel
theorem dL_law_89 : decode cL_law 89 = .ok (.if_icmp .ne 15, 3) := by decide +kernel
theorem dL_law_92 : decode cL_law 92 = .ok (.aload_n 1, 1) := by decide +kernel
theorem dL_law_93 : decode cL_law 93 = .ok (.iconst 2, 1) := by decide +kernel
theorem dL_law_94 : decode cL_law 94 = .ok (.invokevirtual 37, 3) := by decide +kernel
theorem dL_law_97 : decode cL_law 97 = .ok (.ldc2_w 132, 3) := by decide +kernel
theorem dL_law_100 : decode cL_law 100 = .ok (.dcmp .l, 1) := by decide +kernel
theorem dL_law_101 : decode cL_law 101 = .ok (.ifCond .eq 5, 3) := by decide +kernel
theorem dL_law_104 : decode cL_law 104 = .ok (.iconst 0, 1) := by decide +kernel
theorem dL_law_105 : decode cL_law 105 = .ok (.ireturn, 1) := by decide +kernel
theorem dL_law_106 : decode cL_law 106 = .ok (.iconst 0, 1) := by decide +kernel
theorem dL_law_107 : decode cL_law 107 = .ok (.istore_n 2, 1) := by decide +kernel
theorem dL_law_108 : decode cL_law 108 = .ok (.iload_n 2, 1) := by decide +kernel
theorem dL_law_109 : decode cL_law 109 = .ok (.bipush 30, 2) := by decide +kernel
theorem dL_law_111 : decode cL_law 111 = .ok (.if_icmp .ge 281, 3) := by decide +kernel
theorem dL_law_114 : decode cL_law 114 = .ok (.aload_n 0, 1) := by decide +kernel
theorem dL_law_115 : decode cL_law 115 = .ok (.iconst 2, 1) := by decide +kernel
theorem dL_law_116 : decode cL_law 116 = .ok (.iload_n 2, 1) := by decide +kernel
theorem dL_law_117 : decode cL_law 117 = .ok (.imul, 1) := by decide +kernel
theorem dL_law_118 : decode cL_law 118 = .ok (.invokestatic 134, 3) := by decide +kernel
theorem dL_law_121 : decode cL_law 121 = .ok (.istore_n 3, 1) := by decide +kernel
theorem dL_law_122 : decode cL_law 122 = .ok (.aload_n 0, 1) := by decide +kernel
theorem dL_law_123 : decode cL_law 123 = .ok (.iconst 2, 1) := by decide +kernel
theorem dL_law_124 : decode cL_law 124 = .ok (.iload_n 2, 1) := by decide +kernel
theorem dL_law_125 : decode cL_law 125 = .ok (.imul, 1) := by decide +kernel
theorem dL_law_126 : decode cL_law 126 = .ok (.iconst 1, 1) := by decide +kernel
theorem dL_law_127 : decode cL_law 127 = .ok (.iadd, 1) := by decide +kernel
theorem dL_law_128 : decode cL_law 128 = .ok (.invokestatic 134, 3) := by decide +kernel
theorem dL_law_131 : decode cL_law 131 = .ok (.istore 4, 2) := by decide +kernel
theorem dL_law_133 : decode cL_law 133 = .ok (.iload_n 2, 1) := by decide +kernel
theorem dL_law_134 : decode cL_law 134 = .ok (.iconst 2, 1) := by decide +kernel
theorem dL_law_135 : decode cL_law 135 = .ok (.if_icmp .ge 7, 3) := by decide +kernel
theorem dL_law_138 : decode cL_law 138 = .ok (.iconst 0, 1) := by decide +kernel
theorem dL_law_139 : decode cL_law 139 = .ok (.goto 31, 3) := by decide +kernel
theorem dL_law_142 : decode cL_law 142 = .ok (.iload_n 2, 1) := by decide +kernel
theorem dL_law_143 : decode cL_law 143 = .ok (.iconst 2, 1) := by decide +kernel
theorem dL_law_144 : decode cL_law 144 = .ok (.if_icmp .ne 7, 3) := by decide +kernel
theorem dL_law_147 : decode cL_law 147 = .ok (.iconst 1, 1) := by decide +kernel
theorem dL_law_148 : decode cL_law 148 = .ok (.goto 22, 3) := by decide +kernel
theorem dL_law_151 : decode cL_law 151 = .ok (.iload_n 2, 1) := by decide +kernel
theorem dL_law_152 : decode cL_law 152 = .ok (.iconst 3, 1) := by decide +kernel
theorem dL_law_153 : decode cL_law 153 = .ok (.if_icmp .ne 8, 3) := by decide +kernel
theorem dL_law_156 : decode cL_law 156 = .ok (.bipush 10, 2) := by decide +kernel
theorem dL_law_158 : decode cL_law 158 = .ok (.goto 12, 3) := by decide +kernel
theorem dL_law_161 : decode cL_law 161 = .ok (.iload_n 3, 1) := by decide +kernel
theorem dL_law_162 : decode cL_law 162 = .ok (.bipush 9, 2) := by decide +kernel
theorem dL_law_164 : decode cL_law 164 = .ok (.ishr, 1) := by decide +kernel
theorem dL_law_165 : decode cL_law 165 = .ok (.bipush 22, 2) := by decide +kernel
theorem dL_law_167 : decode cL_law 167 = .ok (.invokestatic 56, 3) := by decide +kernel
theorem dL_law_170 : decode cL_law 170 = .ok (.istore 5, 2) := by decide +kernel
theorem dL_law_172 : decode cL_law 172 = .ok (.aload_n 1, 1) := by decide +kernel
theorem dL_law_173 : decode cL_law 173 = .ok (.bipush 15, 2) := by decide +kernel
theorem dL_law_175 : decode cL_law 175 = .ok (.invokevirtual 13, 3) := by decide +kernel
theorem dL_law_178 : decode cL_law 178 = .ok (.istore 6, 2) := by decide +kernel
theorem dL_law_180 : decode cL_law 180 = .ok (.aload_n 1, 1) := by decide +kernel
theorem dL_law_181 : decode cL_law 181 = .ok (.invokestatic 118, 3) := by decide +kernel
theorem dL_law_184 : decode cL_law 184 = .ok (.lstore 7, 2) := by decide +kernel
theorem dL_law_186 : decode cL_law 186 = .ok (.iconst 1, 1) := by decide +kernel
theorem dL_law_187 : decode cL_law 187 = .ok (.istore 9, 2) := by decide +kernel
theorem dL_law_189 : decode cL_law 189 = .ok (.iload 5, 2) := by decide +kernel
theorem dL_law_191 : decode cL_law 191 = .ok (.iconst 4, 1) := by decide +kernel
theorem dL_law_192 : decode cL_law 192 = .ok (.if_icmp .ge 17, 3) := by decide +kernel
theorem dL_law_195 : decode cL_law 195 = .ok (.aload_n 1, 1) := by decide +kernel
theorem dL_law_196 : decode cL_law 196 = .ok (.iload 5, 2) := by decide +kernel
theorem dL_law_198 : decode cL_law 198 = .ok (.iload_n 3, 1) := by decide +kernel
theorem dL_law_199 : decode cL_law 199 = .ok (.iload 4, 2) := by decide +kernel
theorem dL_law_201 : decode cL_law 201 = .ok (.invokestatic 138, 3) := by decide +kernel
theorem dL_law_204 : decode cL_law 204 = .ok (.istore 9, 2) := by decide +kernel
theorem dL_law_206 : decode cL_law 206 = .ok (.goto 71, 3) := by decide +kernel
theorem dL_law_209 : decode cL_law 209 = .ok (.iload 5, 2) := by decide +kernel
theorem dL_law_211 : decode cL_law 211 = .ok (.bipush 9, 2) := by decide +kernel
theorem dL_law_213 : decode cL_law 213 = .ok (.if_icmp .ge 17, 3) := by decide +kernel
theorem dL_law_216 : decode cL_law 216 = .ok (.aload_n 1, 1) := by decide +kernel
theorem dL_law_217 : decode cL_law 217 = .ok (.iload 5, 2) := by decide +kernel
theorem dL_law_219 : decode cL_law 219 = .ok (.iload_n 3, 1) := by decide +kernel
theorem dL_law_220 : decode cL_law 220 = .ok (.iload 4, 2) := by decide +kernel
theorem dL_law_222 : decode cL_law 222 = .ok (.invokestatic 142, 3) := by decide +kernel
theorem dL_law_225 : decode cL_law 225 = .ok (.istore 9, 2) := by decide +kernel
theorem dL_law_227 : decode cL_law 227 = .ok (.goto 50, 3) := by decide +kernel
theorem dL_law_230 : decode cL_law 230 = .ok (.iload 5, 2) := by decide +kernel
theorem dL_law_232 : decode cL_law 232 = .ok (.bipush 16, 2) := by decide +kernel
theorem dL_law_234 : decode cL_law 234 = .ok (.if_icmp .ge 17, 3) := by decide +kernel
theorem dL_law_237 : decode cL_law 237 = .ok (.aload_n 1, 1) := by decide +kernel
theorem dL_law_238 : decode cL_law 238 = .ok (.iload 5, 2) := by decide +kernel
theorem dL_law_240 : decode cL_law 240 = .ok (.iload_n 3, 1) := by decide +kernel
theorem dL_law_241 : decode cL_law 241 = .ok (.iload 4, 2) := by decide +kernel
theorem dL_law_243 : decode cL_law 243 = .ok (.invokestatic 145, 3) := by decide +kernel
theorem dL_law_246 : decode cL_law 246 = .ok (.istore 9, 2) := by decide +kernel
theorem dL_law_248 : decode cL_law 248 = .ok (.goto 29, 3) := by decide +kernel
theorem dL_law_251 : decode cL_law 251 = .ok (.aload_n 1, 1) := by decide +kernel
theorem dL_law_252 : decode cL_law 252 = .ok (.iconst 1, 1) := by decide +kernel
theorem dL_law_253 : decode cL_law 253 = .ok (.iload 4, 2) := by decide +kernel
theorem dL_law_255 : decode cL_law 255 = .ok (.bipush 7, 2) := by decide +kernel
theorem dL_law_257 : decode cL_law 257 = .ok (.invokestatic 56, 3) := by decide +kernel
theorem dL_law_260 : decode cL_law 260 = .ok (.iadd, 1) := by decide +kernel
theorem dL_law_261 : decode cL_law 261 = .ok (.iconst 1, 1) := by decide +kernel
theorem dL_law_262 : decode cL_law 262 = .ok (.iload 4, 2) := by decide +kernel
theorem dL_law_264 : decode cL_law 264 = .ok (.iconst 4, 1) := by decide +kernel
theorem dL_law_265 : decode cL_law 265 = .ok (.ishr, 1) := by decide +kernel
theorem dL_law_266 : decode cL_law 266 = .ok (.bipush 7, 2) := by decide +kernel
theorem dL_law_268 : decode cL_law 268 = .ok (.invokestatic 56, 3) := by decide +kernel
theorem dL_law_271 : decode cL_law 271 = .ok (.iadd, 1) := by decide +kernel
theorem dL_law_272 : decode cL_law 272 = .ok (.invokestatic 148, 3) := by decide +kernel
theorem dL_law_275 : decode cL_law 275 = .ok (.istore 9, 2) := by decide +kernel
theorem dL_law_277 : decode cL_law 277 = .ok (.iload 6, 2) := by decide +kernel
theorem dL_law_279 : decode cL_law 279 = .ok (.iconst 5, 1) := by decide +kernel
theorem dL_law_280 : decode cL_law 280 = .ok (.if_icmp .ne 7, 3) := by decide +kernel
theorem dL_law_283 : decode cL_law 283 = .ok (.iconst 4, 1) := by decide +kernel
theorem dL_law_284 : decode cL_law 284 = .ok (.goto 5, 3) := by decide +kernel
theorem dL_law_287 : decode cL_law 287 = .ok (.iload 6, 2) := by decide +kernel
theorem dL_law_289 : decode cL_law 289 = .ok (.istore 10, 2) := by decide +kernel
theorem dL_law_291 : decode cL_law 291 = .ok (.iload 9, 2) := by decide +kernel
theorem dL_law_293 : decode cL_law 293 = .ok (.ifCond .eq 72, 3) := by decide +kernel
theorem dL_law_296 : decode cL_law 296 = .ok (.iload 5, 2) := by decide +kernel
theorem dL_law_298 : decode cL_law 298 = .ok (.bipush 16, 2) := by decide +kernel
theorem dL_law_300 : decode cL_law 300 = .ok (.if_icmp .ge 65, 3) := by decide +kernel
theorem dL_law_303 : decode cL_law 303 = .ok (.iload 4, 2) := by decide +kernel
theorem dL_law_305 : decode cL_law 305 = .ok (.sipush 3072, 3) := by decide +kernel
theorem dL_law_308 : decode cL_law 308 = .ok (.iand, 1) := by decide +kernel
theorem dL_law_309 : decode cL_law 309 = .ok (.ifCond .ne 56, 3) := by decide +kernel
theorem dL_law_312 : decode cL_law 312 = .ok (.aload_n 1, 1) := by decide +kernel
theorem dL_law_313 : decode cL_law 313 = .ok (.bipush 15, 2) := by decide +kernel
theorem dL_law_315 : decode cL_law 315 = .ok (.invokevirtual 13, 3) := by decide +kernel
theorem dL_law_318 : decode cL_law 318 = .ok (.iload 6, 2) := by decide +kernel
theorem dL_law_320 : decode cL_law 320 = .ok (.if_icmp .ne 19, 3) := by decide +kernel
theorem dL_law_323 : decode cL_law 323 = .ok (.iload 6, 2) := by decide +kernel
theorem dL_law_325 : decode cL_law 325 = .ok (.iconst 5, 1) := by decide +kernel
theorem dL_law_326 : decode cL_law 326 = .ok (.if_icmp .ne 39, 3) := by decide +kernel
theorem dL_law_329 : decode cL_law 329 = .ok (.aload_n 1, 1) := by decide +kernel
theorem dL_law_330 : decode cL_law 330 = .ok (.invokestatic 118, 3) := by decide +kernel
theorem dL_law_333 : decode cL_law 333 = .ok (.lload 7, 2) := by decide +kernel
theorem dL_law_335 : decode cL_law 335 = .ok (.lcmp, 1) := by decide +kernel
theorem dL_law_336 : decode cL_law 336 = .ok (.ifCond .eq 29, 3) := by decide +kernel
theorem dL_law_339 : decode cL_law 339 = .ok (.aload_n 1, 1) := by decide +kernel
theorem dL_law_340 : decode cL_law 340 = .ok (.invokevirtual 126, 3) := by decide +kernel
theorem dL_law_343 : decode cL_law 343 = .ok (.iload 10, 2) := by decide +kernel
theorem dL_law_345 : decode cL_law 345 = .ok (.if_icmp .ne 17, 3) := by decide +kernel
theorem dL_law_348 : decode cL_law 348 = .ok (.aload_n 1, 1) := by decide +kernel
theorem dL_law_349 : decode cL_law 349 = .ok (.invokestatic 118, 3) := by decide +kernel
theorem dL_law_352 : decode cL_law 352 = .ok (.lload 7, 2) := by decide +kernel
theorem dL_law_354 : decode cL_law 354 = .ok (.lcmp, 1) := by decide +kernel
theorem dL_law_355 : decode cL_law 355 = .ok (.ifCond .ne 7, 3) := by decide +kernel
theorem dL_law_358 : decode cL_law 358 = .ok (.iconst 1, 1) := by decide +kernel
theorem dL_law_359 : decode cL_law 359 = .ok (.goto 4, 3) := by decide +kernel
theorem dL_law_362 : decode cL_law 362 = .ok (.iconst 0, 1) := by decide +kernel
theorem dL_law_363 : decode cL_law 363 = .ok (.istore 9, 2) := by decide +kernel
theorem dL_law_365 : decode cL_law 365 = .ok (.iload 9, 2) := by decide +kernel
theorem dL_law_367 : decode cL_law 367 = .ok (.ifCond .eq 17, 3) := by decide +kernel
theorem dL_law_370 : decode cL_law 370 = .ok (.aload_n 1, 1) := by decide +kernel
theorem dL_law_371 : decode cL_law 371 = .ok (.invokestatic 152, 3) := by decide +kernel
theorem dL_law_374 : decode cL_law 374 = .ok (.ifCond .eq 10, 3) := by decide +kernel
theorem dL_law_377 : decode cL_law 377 = .ok (.aload_n 1, 1) := by decide +kernel
theorem dL_law_378 : decode cL_law 378 = .ok (.invokestatic 156, 3) := by decide +kernel
theorem dL_law_381 : decode cL_law 381 = .ok (.ifCond .ne 5, 3) := by decide +kernel
theorem dL_law_384 : decode cL_law 384 = .ok (.iconst 0, 1) := by decide +kernel
theorem dL_law_385 : decode cL_law 385 = .ok (.ireturn, 1) := by decide +kernel
theorem dL_law_386 : decode cL_law 386 = .ok (.iinc 2 1, 3) := by decide +kernel
theorem dL_law_389 : decode cL_law 389 = .ok (.goto (-281), 3) := by decide +kernel
theorem dL_law_392 : decode cL_law 392 = .ok (.iconst 1, 1) := by decide +kernel
theorem dL_law_393 : decode cL_law 393 = .ok (.ireturn, 1) := by decide +kernel
