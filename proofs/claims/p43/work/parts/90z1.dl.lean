theorem dL_cell_0 : decode cL_cell 0 = .ok (.ldc 7, 2) := by decide +kernel
theorem dL_cell_2 : decode cL_cell 2 = .ok (.iload_n 1, 1) := by decide +kernel
theorem dL_cell_3 : decode cL_cell 3 = .ok (.aload_n 0, 1) := by decide +kernel
theorem dL_cell_4 : decode cL_cell 4 = .ok (.arraylength, 1) := by decide +kernel
theorem dL_cell_5 : decode cL_cell 5 = .ok (.if_icmp .ge 9, 3) := by decide +kernel
theorem dL_cell_8 : decode cL_cell 8 = .ok (.aload_n 0, 1) := by decide +kernel
theorem dL_cell_9 : decode cL_cell 9 = .ok (.iload_n 1, 1) := by decide +kernel
theorem dL_cell_10 : decode cL_cell 10 = .ok (.iaload, 1) := by decide +kernel
theorem dL_cell_11 : decode cL_cell 11 = .ok (.goto 4, 3) := by decide +kernel
theorem dL_cell_14 : decode cL_cell 14 = .ok (.iconst 0, 1) := by decide +kernel
theorem dL_cell_15 : decode cL_cell 15 = .ok (.sipush 1009, 3) := by decide +kernel
theorem dL_cell_18 : decode cL_cell 18 = .ok (.iload_n 1, 1) := by decide +kernel
theorem dL_cell_19 : decode cL_cell 19 = .ok (.imul, 1) := by decide +kernel
theorem dL_cell_20 : decode cL_cell 20 = .ok (.iadd, 1) := by decide +kernel
theorem dL_cell_21 : decode cL_cell 21 = .ok (.imul, 1) := by decide +kernel
theorem dL_cell_22 : decode cL_cell 22 = .ok (.sipush 12345, 3) := by decide +kernel
theorem dL_cell_25 : decode cL_cell 25 = .ok (.iadd, 1) := by decide +kernel
theorem dL_cell_26 : decode cL_cell 26 = .ok (.istore_n 2, 1) := by decide +kernel
theorem dL_cell_27 : decode cL_cell 27 = .ok (.iload_n 2, 1) := by decide +kernel
theorem dL_cell_28 : decode cL_cell 28 = .ok (.iload_n 2, 1) := by decide +kernel
theorem dL_cell_29 : decode cL_cell 29 = .ok (.bipush 13, 2) := by decide +kernel
theorem dL_cell_31 : decode cL_cell 31 = .ok (.iushr, 1) := by decide +kernel
theorem dL_cell_32 : decode cL_cell 32 = .ok (.ixor, 1) := by decide +kernel
theorem dL_cell_33 : decode cL_cell 33 = .ok (.ldc 8, 2) := by decide +kernel
theorem dL_cell_35 : decode cL_cell 35 = .ok (.imul, 1) := by decide +kernel
theorem dL_cell_36 : decode cL_cell 36 = .ok (.istore_n 2, 1) := by decide +kernel
theorem dL_cell_37 : decode cL_cell 37 = .ok (.iload_n 2, 1) := by decide +kernel
theorem dL_cell_38 : decode cL_cell 38 = .ok (.iload_n 2, 1) := by decide +kernel
theorem dL_cell_39 : decode cL_cell 39 = .ok (.bipush 16, 2) := by decide +kernel
theorem dL_cell_41 : decode cL_cell 41 = .ok (.iushr, 1) := by decide +kernel
theorem dL_cell_42 : decode cL_cell 42 = .ok (.ixor, 1) := by decide +kernel
theorem dL_cell_43 : decode cL_cell 43 = .ok (.ireturn, 1) := by decide +kernel
theorem dL_pick_0 : decode cL_pick 0 = .ok (.aload_n 0, 1) := by decide +kernel
theorem dL_pick_1 : decode cL_pick 1 = .ok (.iload_n 1, 1) := by decide +kernel
theorem dL_pick_2 : decode cL_pick 2 = .ok (.invokestatic 9, 3) := by decide +kernel
theorem dL_pick_5 : decode cL_pick 5 = .ok (.bipush 8, 2) := by decide +kernel
theorem dL_pick_7 : decode cL_pick 7 = .ok (.iushr, 1) := by decide +kernel
theorem dL_pick_8 : decode cL_pick 8 = .ok (.iload_n 2, 1) := by decide +kernel
theorem dL_pick_9 : decode cL_pick 9 = .ok (.irem, 1) := by decide +kernel
theorem dL_pick_10 : decode cL_pick 10 = .ok (.ireturn, 1) := by decide +kernel
theorem dL_shape_0 : decode cL_shape 0 = .ok (.iload_n 0, 1) := by decide +kernel
theorem dL_shape_1 : decode cL_shape 1 = .ok (.ifCond .ne 8, 3) := by decide +kernel
theorem dL_shape_4 : decode cL_shape 4 = .ok (.bipush 110, 2) := by decide +kernel
theorem dL_shape_6 : decode cL_shape 6 = .ok (.goto 45, 3) := by decide +kernel
theorem dL_shape_9 : decode cL_shape 9 = .ok (.iload_n 0, 1) := by decide +kernel
theorem dL_shape_10 : decode cL_shape 10 = .ok (.iconst 1, 1) := by decide +kernel
theorem dL_shape_11 : decode cL_shape 11 = .ok (.if_icmp .ne 8, 3) := by decide +kernel
theorem dL_shape_14 : decode cL_shape 14 = .ok (.bipush 108, 2) := by decide +kernel
theorem dL_shape_16 : decode cL_shape 16 = .ok (.goto 35, 3) := by decide +kernel
theorem dL_shape_19 : decode cL_shape 19 = .ok (.iload_n 0, 1) := by decide +kernel
theorem dL_shape_20 : decode cL_shape 20 = .ok (.iconst 2, 1) := by decide +kernel
theorem dL_shape_21 : decode cL_shape 21 = .ok (.if_icmp .ne 8, 3) := by decide +kernel
theorem dL_shape_24 : decode cL_shape 24 = .ok (.bipush 114, 2) := by decide +kernel
theorem dL_shape_26 : decode cL_shape 26 = .ok (.goto 25, 3) := by decide +kernel
theorem dL_shape_29 : decode cL_shape 29 = .ok (.iload_n 0, 1) := by decide +kernel
theorem dL_shape_30 : decode cL_shape 30 = .ok (.iconst 3, 1) := by decide +kernel
theorem dL_shape_31 : decode cL_shape 31 = .ok (.if_icmp .ne 8, 3) := by decide +kernel
theorem dL_shape_34 : decode cL_shape 34 = .ok (.bipush 116, 2) := by decide +kernel
theorem dL_shape_36 : decode cL_shape 36 = .ok (.goto 15, 3) := by decide +kernel
theorem dL_shape_39 : decode cL_shape 39 = .ok (.iload_n 0, 1) := by decide +kernel
theorem dL_shape_40 : decode cL_shape 40 = .ok (.iconst 4, 1) := by decide +kernel
theorem dL_shape_41 : decode cL_shape 41 = .ok (.if_icmp .ne 8, 3) := by decide +kernel
theorem dL_shape_44 : decode cL_shape 44 = .ok (.bipush 112, 2) := by decide +kernel
theorem dL_shape_46 : decode cL_shape 46 = .ok (.goto 5, 3) := by decide +kernel
theorem dL_shape_49 : decode cL_shape 49 = .ok (.bipush 118, 2) := by decide +kernel
theorem dL_shape_51 : decode cL_shape 51 = .ok (.ireturn, 1) := by decide +kernel
theorem dL_lay_0 : decode cL_lay 0 = .ok (.iconst 0, 1) := by decide +kernel
theorem dL_lay_1 : decode cL_lay 1 = .ok (.istore_n 3, 1) := by decide +kernel
theorem dL_lay_2 : decode cL_lay 2 = .ok (.iconst 0, 1) := by decide +kernel
theorem dL_lay_3 : decode cL_lay 3 = .ok (.istore 4, 2) := by decide +kernel
theorem dL_lay_5 : decode cL_lay 5 = .ok (.iload 4, 2) := by decide +kernel
theorem dL_lay_7 : decode cL_lay 7 = .ok (.iconst 2, 1) := by decide +kernel
theorem dL_lay_8 : decode cL_lay 8 = .ok (.aload_n 2, 1) := by decide +kernel
theorem dL_lay_9 : decode cL_lay 9 = .ok (.iconst 0, 1) := by decide +kernel
theorem dL_lay_10 : decode cL_lay 10 = .ok (.bipush 6, 2) := by decide +kernel
theorem dL_lay_12 : decode cL_lay 12 = .ok (.invokestatic 154, 3) := by decide +kernel
theorem dL_lay_15 : decode cL_lay 15 = .ok (.iadd, 1) := by decide +kernel
theorem dL_lay_16 : decode cL_lay 16 = .ok (.if_icmp .ge 170, 3) := by decide +kernel
theorem dL_lay_19 : decode cL_lay 19 = .ok (.aload_n 2, 1) := by decide +kernel
theorem dL_lay_20 : decode cL_lay 20 = .ok (.bipush 10, 2) := by decide +kernel
theorem dL_lay_22 : decode cL_lay 22 = .ok (.iload 4, 2) := by decide +kernel
theorem dL_lay_24 : decode cL_lay 24 = .ok (.iadd, 1) := by decide +kernel
theorem dL_lay_25 : decode cL_lay 25 = .ok (.iconst 5, 1) := by decide +kernel
theorem dL_lay_26 : decode cL_lay 26 = .ok (.invokestatic 154, 3) := by decide +kernel
theorem dL_lay_29 : decode cL_lay 29 = .ok (.ifCond .ne 7, 3) := by decide +kernel
theorem dL_lay_32 : decode cL_lay 32 = .ok (.iconst 0, 1) := by decide +kernel
theorem dL_lay_33 : decode cL_lay 33 = .ok (.goto 15, 3) := by decide +kernel
theorem dL_lay_36 : decode cL_lay 36 = .ok (.aload_n 2, 1) := by decide +kernel
theorem dL_lay_37 : decode cL_lay 37 = .ok (.bipush 10, 2) := by decide +kernel
theorem dL_lay_39 : decode cL_lay 39 = .ok (.iload 4, 2) := by decide +kernel
theorem dL_lay_41 : decode cL_lay 41 = .ok (.iadd, 1) := by decide +kernel
theorem dL_lay_42 : decode cL_lay 42 = .ok (.sipush 300, 3) := by decide +kernel
theorem dL_lay_45 : decode cL_lay 45 = .ok (.invokestatic 154, 3) := by decide +kernel
theorem dL_lay_48 : decode cL_lay 48 = .ok (.istore 5, 2) := by decide +kernel
theorem dL_lay_50 : decode cL_lay 50 = .ok (.aload_n 2, 1) := by decide +kernel
theorem dL_lay_51 : decode cL_lay 51 = .ok (.bipush 20, 2) := by decide +kernel
theorem dL_lay_53 : decode cL_lay 53 = .ok (.iload 4, 2) := by decide +kernel
theorem dL_lay_55 : decode cL_lay 55 = .ok (.iadd, 1) := by decide +kernel
theorem dL_lay_56 : decode cL_lay 56 = .ok (.iconst 3, 1) := by decide +kernel
theorem dL_lay_57 : decode cL_lay 57 = .ok (.invokestatic 154, 3) := by decide +kernel
theorem dL_lay_60 : decode cL_lay 60 = .ok (.ifCond .ne 17, 3) := by decide +kernel
theorem dL_lay_63 : decode cL_lay 63 = .ok (.aload_n 2, 1) := by decide +kernel
theorem dL_lay_64 : decode cL_lay 64 = .ok (.bipush 20, 2) := by decide +kernel
theorem dL_lay_66 : decode cL_lay 66 = .ok (.iload 4, 2) := by decide +kernel
theorem dL_lay_68 : decode cL_lay 68 = .ok (.iadd, 1) := by decide +kernel
theorem dL_lay_69 : decode cL_lay 69 = .ok (.bipush 51, 2) := by decide +kernel
theorem dL_lay_71 : decode cL_lay 71 = .ok (.invokestatic 154, 3) := by decide +kernel
theorem dL_lay_74 : decode cL_lay 74 = .ok (.goto 4, 3) := by decide +kernel
theorem dL_lay_77 : decode cL_lay 77 = .ok (.iconst 0, 1) := by decide +kernel
theorem dL_lay_78 : decode cL_lay 78 = .ok (.istore 6, 2) := by decide +kernel
theorem dL_lay_80 : decode cL_lay 80 = .ok (.iconst 1, 1) := by decide +kernel
theorem dL_lay_81 : decode cL_lay 81 = .ok (.aload_n 2, 1) := by decide +kernel
theorem dL_lay_82 : decode cL_lay 82 = .ok (.bipush 30, 2) := by decide +kernel
theorem dL_lay_84 : decode cL_lay 84 = .ok (.iload 4, 2) := by decide +kernel
theorem dL_lay_86 : decode cL_lay 86 = .ok (.iadd, 1) := by decide +kernel
theorem dL_lay_87 : decode cL_lay 87 = .ok (.aload_n 2, 1) := by decide +kernel
theorem dL_lay_88 : decode cL_lay 88 = .ok (.bipush 40, 2) := by decide +kernel
theorem dL_lay_90 : decode cL_lay 90 = .ok (.iload 4, 2) := by decide +kernel
theorem dL_lay_92 : decode cL_lay 92 = .ok (.iadd, 1) := by decide +kernel
theorem dL_lay_93 : decode cL_lay 93 = .ok (.iconst 2, 1) := by decide +kernel
theorem dL_lay_94 : decode cL_lay 94 = .ok (.invokestatic 154, 3) := by decide +kernel
theorem dL_lay_97 : decode cL_lay 97 = .ok (.ifCond .ne 8, 3) := by decide +kernel
theorem dL_lay_100 : decode cL_lay 100 = .ok (.bipush 99, 2) := by decide +kernel
theorem dL_lay_102 : decode cL_lay 102 = .ok (.goto 5, 3) := by decide +kernel
theorem dL_lay_105 : decode cL_lay 105 = .ok (.bipush 9, 2) := by decide +kernel
theorem dL_lay_107 : decode cL_lay 107 = .ok (.invokestatic 154, 3) := by decide +kernel
theorem dL_lay_110 : decode cL_lay 110 = .ok (.iadd, 1) := by decide +kernel
theorem dL_lay_111 : decode cL_lay 111 = .ok (.istore 7, 2) := by decide +kernel
theorem dL_lay_113 : decode cL_lay 113 = .ok (.aload_n 0, 1) := by decide +kernel
theorem dL_lay_114 : decode cL_lay 114 = .ok (.iconst 0, 1) := by decide +kernel
theorem dL_lay_115 : decode cL_lay 115 = .ok (.aload_n 2, 1) := by decide +kernel
theorem dL_lay_116 : decode cL_lay 116 = .ok (.bipush 50, 2) := by decide +kernel
theorem dL_lay_118 : decode cL_lay 118 = .ok (.iload 4, 2) := by decide +kernel
theorem dL_lay_120 : decode cL_lay 120 = .ok (.iadd, 1) := by decide +kernel
theorem dL_lay_121 : decode cL_lay 121 = .ok (.iconst 3, 1) := by decide +kernel
theorem dL_lay_122 : decode cL_lay 122 = .ok (.invokestatic 154, 3) := by decide +kernel
theorem dL_lay_125 : decode cL_lay 125 = .ok (.iload 5, 2) := by decide +kernel
theorem dL_lay_127 : decode cL_lay 127 = .ok (.iload 6, 2) := by decide +kernel
theorem dL_lay_129 : decode cL_lay 129 = .ok (.iload 7, 2) := by decide +kernel
theorem dL_lay_131 : decode cL_lay 131 = .ok (.invokestatic 158, 3) := by decide +kernel
theorem dL_lay_134 : decode cL_lay 134 = .ok (.ifCond .lt 46, 3) := by decide +kernel
theorem dL_lay_137 : decode cL_lay 137 = .ok (.aload_n 1, 1) := by decide +kernel
theorem dL_lay_138 : decode cL_lay 138 = .ok (.bipush 10, 2) := by decide +kernel
theorem dL_lay_140 : decode cL_lay 140 = .ok (.iconst 3, 1) := by decide +kernel
theorem dL_lay_141 : decode cL_lay 141 = .ok (.aload_n 1, 1) := by decide +kernel
theorem dL_lay_142 : decode cL_lay 142 = .ok (.iconst 0, 1) := by decide +kernel
theorem dL_lay_143 : decode cL_lay 143 = .ok (.iaload, 1) := by decide +kernel
theorem dL_lay_144 : decode cL_lay 144 = .ok (.imul, 1) := by decide +kernel
theorem dL_lay_145 : decode cL_lay 145 = .ok (.iadd, 1) := by decide +kernel
theorem dL_lay_146 : decode cL_lay 146 = .ok (.iload 5, 2) := by decide +kernel
theorem dL_lay_148 : decode cL_lay 148 = .ok (.iastore, 1) := by decide +kernel
theorem dL_lay_149 : decode cL_lay 149 = .ok (.aload_n 1, 1) := by decide +kernel
theorem dL_lay_150 : decode cL_lay 150 = .ok (.bipush 11, 2) := by decide +kernel
theorem dL_lay_152 : decode cL_lay 152 = .ok (.iconst 3, 1) := by decide +kernel
theorem dL_lay_153 : decode cL_lay 153 = .ok (.aload_n 1, 1) := by decide +kernel
theorem dL_lay_154 : decode cL_lay 154 = .ok (.iconst 0, 1) := by decide +kernel
theorem dL_lay_155 : decode cL_lay 155 = .ok (.iaload, 1) := by decide +kernel
theorem dL_lay_156 : decode cL_lay 156 = .ok (.imul, 1) := by decide +kernel
theorem dL_lay_157 : decode cL_lay 157 = .ok (.iadd, 1) := by decide +kernel
theorem dL_lay_158 : decode cL_lay 158 = .ok (.iload 6, 2) := by decide +kernel
theorem dL_lay_160 : decode cL_lay 160 = .ok (.iastore, 1) := by decide +kernel
theorem dL_lay_161 : decode cL_lay 161 = .ok (.aload_n 1, 1) := by decide +kernel
theorem dL_lay_162 : decode cL_lay 162 = .ok (.bipush 12, 2) := by decide +kernel
theorem dL_lay_164 : decode cL_lay 164 = .ok (.iconst 3, 1) := by decide +kernel
theorem dL_lay_165 : decode cL_lay 165 = .ok (.aload_n 1, 1) := by decide +kernel
theorem dL_lay_166 : decode cL_lay 166 = .ok (.iconst 0, 1) := by decide +kernel
theorem dL_lay_167 : decode cL_lay 167 = .ok (.iaload, 1) := by decide +kernel
theorem dL_lay_168 : decode cL_lay 168 = .ok (.imul, 1) := by decide +kernel
theorem dL_lay_169 : decode cL_lay 169 = .ok (.iadd, 1) := by decide +kernel
theorem dL_lay_170 : decode cL_lay 170 = .ok (.iload 7, 2) := by decide +kernel
theorem dL_lay_172 : decode cL_lay 172 = .ok (.iastore, 1) := by decide +kernel
theorem dL_lay_173 : decode cL_lay 173 = .ok (.aload_n 1, 1) := by decide +kernel
theorem dL_lay_174 : decode cL_lay 174 = .ok (.iconst 0, 1) := by decide +kernel
theorem dL_lay_175 : decode cL_lay 175 = .ok (.dup2, 1) := by decide +kernel
theorem dL_lay_176 : decode cL_lay 176 = .ok (.iaload, 1) := by decide +kernel
theorem dL_lay_177 : decode cL_lay 177 = .ok (.iconst 1, 1) := by decide +kernel
theorem dL_lay_178 : decode cL_lay 178 = .ok (.iadd, 1) := by decide +kernel
theorem dL_lay_179 : decode cL_lay 179 = .ok (.iastore, 1) := by decide +kernel
theorem dL_lay_180 : decode cL_lay 180 = .ok (.iinc 4 1, 3) := by decide +kernel
theorem dL_lay_183 : decode cL_lay 183 = .ok (.goto (-178), 3) := by decide +kernel
theorem dL_lay_186 : decode cL_lay 186 = .ok (.iconst 0, 1) := by decide +kernel
theorem dL_lay_187 : decode cL_lay 187 = .ok (.istore 4, 2) := by decide +kernel
theorem dL_lay_189 : decode cL_lay 189 = .ok (.iload 4, 2) := by decide +kernel
theorem dL_lay_191 : decode cL_lay 191 = .ok (.aload_n 2, 1) := by decide +kernel
theorem dL_lay_192 : decode cL_lay 192 = .ok (.iconst 1, 1) := by decide +kernel
theorem dL_lay_193 : decode cL_lay 193 = .ok (.iconst 3, 1) := by decide +kernel
theorem dL_lay_194 : decode cL_lay 194 = .ok (.invokestatic 154, 3) := by decide +kernel
theorem dL_lay_197 : decode cL_lay 197 = .ok (.if_icmp .ge 93, 3) := by decide +kernel
theorem dL_lay_200 : decode cL_lay 200 = .ok (.aload_n 1, 1) := by decide +kernel
theorem dL_lay_201 : decode cL_lay 201 = .ok (.iconst 5, 1) := by decide +kernel
theorem dL_lay_202 : decode cL_lay 202 = .ok (.dup2, 1) := by decide +kernel
theorem dL_lay_203 : decode cL_lay 203 = .ok (.iaload, 1) := by decide +kernel
theorem dL_lay_204 : decode cL_lay 204 = .ok (.aload_n 0, 1) := by decide +kernel
theorem dL_lay_205 : decode cL_lay 205 = .ok (.iconst 2, 1) := by decide +kernel
theorem dL_lay_206 : decode cL_lay 206 = .ok (.iconst 0, 1) := by decide +kernel
theorem dL_lay_207 : decode cL_lay 207 = .ok (.iconst 0, 1) := by decide +kernel
theorem dL_lay_208 : decode cL_lay 208 = .ok (.iconst 0, 1) := by decide +kernel
theorem dL_lay_209 : decode cL_lay 209 = .ok (.iconst 0, 1) := by decide +kernel
theorem dL_lay_210 : decode cL_lay 210 = .ok (.invokestatic 158, 3) := by decide +kernel
theorem dL_lay_213 : decode cL_lay 213 = .ok (.ifCond .lt 7, 3) := by decide +kernel
theorem dL_lay_216 : decode cL_lay 216 = .ok (.iconst 1, 1) := by decide +kernel
theorem dL_lay_217 : decode cL_lay 217 = .ok (.goto 4, 3) := by decide +kernel
theorem dL_lay_220 : decode cL_lay 220 = .ok (.iconst 0, 1) := by decide +kernel
theorem dL_lay_221 : decode cL_lay 221 = .ok (.iadd, 1) := by decide +kernel
theorem dL_lay_222 : decode cL_lay 222 = .ok (.iastore, 1) := by decide +kernel
theorem dL_lay_223 : decode cL_lay 223 = .ok (.iconst 0, 1) := by decide +kernel
theorem dL_lay_224 : decode cL_lay 224 = .ok (.istore 5, 2) := by decide +kernel
theorem dL_lay_226 : decode cL_lay 226 = .ok (.iload 5, 2) := by decide +kernel
theorem dL_lay_228 : decode cL_lay 228 = .ok (.iconst 3, 1) := by decide +kernel
theorem dL_lay_229 : decode cL_lay 229 = .ok (.if_icmp .ge 55, 3) := by decide +kernel
theorem dL_lay_232 : decode cL_lay 232 = .ok (.iload_n 3, 1) := by decide +kernel
theorem dL_lay_233 : decode cL_lay 233 = .ok (.aload_n 0, 1) := by decide +kernel
theorem dL_lay_234 : decode cL_lay 234 = .ok (.iconst 3, 1) := by decide +kernel
theorem dL_lay_235 : decode cL_lay 235 = .ok (.iload 4, 2) := by decide +kernel
theorem dL_lay_237 : decode cL_lay 237 = .ok (.aload_n 2, 1) := by decide +kernel
theorem dL_lay_238 : decode cL_lay 238 = .ok (.bipush 60, 2) := by decide +kernel
theorem dL_lay_240 : decode cL_lay 240 = .ok (.iconst 3, 1) := by decide +kernel
theorem dL_lay_241 : decode cL_lay 241 = .ok (.iload 4, 2) := by decide +kernel
theorem dL_lay_243 : decode cL_lay 243 = .ok (.imul, 1) := by decide +kernel
theorem dL_lay_244 : decode cL_lay 244 = .ok (.iadd, 1) := by decide +kernel
theorem dL_lay_245 : decode cL_lay 245 = .ok (.iload 5, 2) := by decide +kernel
theorem dL_lay_247 : decode cL_lay 247 = .ok (.iadd, 1) := by decide +kernel
theorem dL_lay_248 : decode cL_lay 248 = .ok (.aload_n 1, 1) := by decide +kernel
theorem dL_lay_249 : decode cL_lay 249 = .ok (.iconst 0, 1) := by decide +kernel
theorem dL_lay_250 : decode cL_lay 250 = .ok (.iaload, 1) := by decide +kernel
theorem dL_lay_251 : decode cL_lay 251 = .ok (.invokestatic 154, 3) := by decide +kernel
theorem dL_lay_254 : decode cL_lay 254 = .ok (.iconst 1, 1) := by decide +kernel
theorem dL_lay_255 : decode cL_lay 255 = .ok (.aload_n 2, 1) := by decide +kernel
theorem dL_lay_256 : decode cL_lay 256 = .ok (.bipush 70, 2) := by decide +kernel
theorem dL_lay_258 : decode cL_lay 258 = .ok (.iconst 3, 1) := by decide +kernel
theorem dL_lay_259 : decode cL_lay 259 = .ok (.iload 4, 2) := by decide +kernel
theorem dL_lay_261 : decode cL_lay 261 = .ok (.imul, 1) := by decide +kernel
theorem dL_lay_262 : decode cL_lay 262 = .ok (.iadd, 1) := by decide +kernel
theorem dL_lay_263 : decode cL_lay 263 = .ok (.iload 5, 2) := by decide +kernel
theorem dL_lay_265 : decode cL_lay 265 = .ok (.iadd, 1) := by decide +kernel
theorem dL_lay_266 : decode cL_lay 266 = .ok (.bipush 9, 2) := by decide +kernel
theorem dL_lay_268 : decode cL_lay 268 = .ok (.invokestatic 154, 3) := by decide +kernel
theorem dL_lay_271 : decode cL_lay 271 = .ok (.iadd, 1) := by decide +kernel
theorem dL_lay_272 : decode cL_lay 272 = .ok (.iconst 0, 1) := by decide +kernel
theorem dL_lay_273 : decode cL_lay 273 = .ok (.invokestatic 158, 3) := by decide +kernel
theorem dL_lay_276 : decode cL_lay 276 = .ok (.iadd, 1) := by decide +kernel
theorem dL_lay_277 : decode cL_lay 277 = .ok (.istore_n 3, 1) := by decide +kernel
theorem dL_lay_278 : decode cL_lay 278 = .ok (.iinc 5 1, 3) := by decide +kernel
theorem dL_lay_281 : decode cL_lay 281 = .ok (.goto (-55), 3) := by decide +kernel
theorem dL_lay_284 : decode cL_lay 284 = .ok (.iinc 4 1, 3) := by decide +kernel
theorem dL_lay_287 : decode cL_lay 287 = .ok (.goto (-98), 3) := by decide +kernel
theorem dL_lay_290 : decode cL_lay 290 = .ok (.iconst 0, 1) := by decide +kernel
theorem dL_lay_291 : decode cL_lay 291 = .ok (.istore 4, 2) := by decide +kernel
theorem dL_lay_293 : decode cL_lay 293 = .ok (.iload 4, 2) := by decide +kernel
theorem dL_lay_295 : decode cL_lay 295 = .ok (.iconst 2, 1) := by decide +kernel
theorem dL_lay_296 : decode cL_lay 296 = .ok (.aload_n 2, 1) := by decide +kernel
theorem dL_lay_297 : decode cL_lay 297 = .ok (.iconst 2, 1) := by decide +kernel
theorem dL_lay_298 : decode cL_lay 298 = .ok (.bipush 6, 2) := by decide +kernel
theorem dL_lay_300 : decode cL_lay 300 = .ok (.invokestatic 154, 3) := by decide +kernel
theorem dL_lay_303 : decode cL_lay 303 = .ok (.iadd, 1) := by decide +kernel
theorem dL_lay_304 : decode cL_lay 304 = .ok (.if_icmp .ge 42, 3) := by decide +kernel
theorem dL_lay_307 : decode cL_lay 307 = .ok (.aload_n 1, 1) := by decide +kernel
theorem dL_lay_308 : decode cL_lay 308 = .ok (.iconst 1, 1) := by decide +kernel
theorem dL_lay_309 : decode cL_lay 309 = .ok (.dup2, 1) := by decide +kernel
theorem dL_lay_310 : decode cL_lay 310 = .ok (.iaload, 1) := by decide +kernel
theorem dL_lay_311 : decode cL_lay 311 = .ok (.aload_n 0, 1) := by decide +kernel
theorem dL_lay_312 : decode cL_lay 312 = .ok (.iconst 4, 1) := by decide +kernel
theorem dL_lay_313 : decode cL_lay 313 = .ok (.aload_n 2, 1) := by decide +kernel
theorem dL_lay_314 : decode cL_lay 314 = .ok (.bipush 80, 2) := by decide +kernel
theorem dL_lay_316 : decode cL_lay 316 = .ok (.iload 4, 2) := by decide +kernel
theorem dL_lay_318 : decode cL_lay 318 = .ok (.iadd, 1) := by decide +kernel
theorem dL_lay_319 : decode cL_lay 319 = .ok (.bipush 6, 2) := by decide +kernel
theorem dL_lay_321 : decode cL_lay 321 = .ok (.invokestatic 154, 3) := by decide +kernel
theorem dL_lay_324 : decode cL_lay 324 = .ok (.iconst 0, 1) := by decide +kernel
theorem dL_lay_325 : decode cL_lay 325 = .ok (.iconst 0, 1) := by decide +kernel
theorem dL_lay_326 : decode cL_lay 326 = .ok (.iconst 0, 1) := by decide +kernel
theorem dL_lay_327 : decode cL_lay 327 = .ok (.invokestatic 158, 3) := by decide +kernel
theorem dL_lay_330 : decode cL_lay 330 = .ok (.ifCond .lt 7, 3) := by decide +kernel
theorem dL_lay_333 : decode cL_lay 333 = .ok (.iconst 1, 1) := by decide +kernel
theorem dL_lay_334 : decode cL_lay 334 = .ok (.goto 4, 3) := by decide +kernel
theorem dL_lay_337 : decode cL_lay 337 = .ok (.iconst 0, 1) := by decide +kernel
theorem dL_lay_338 : decode cL_lay 338 = .ok (.iadd, 1) := by decide +kernel
theorem dL_lay_339 : decode cL_lay 339 = .ok (.iastore, 1) := by decide +kernel
theorem dL_lay_340 : decode cL_lay 340 = .ok (.iinc 4 1, 3) := by decide +kernel
theorem dL_lay_343 : decode cL_lay 343 = .ok (.goto (-50), 3) := by decide +kernel
theorem dL_lay_346 : decode cL_lay 346 = .ok (.iconst 0, 1) := by decide +kernel
theorem dL_lay_347 : decode cL_lay 347 = .ok (.istore 4, 2) := by decide +kernel
theorem dL_lay_349 : decode cL_lay 349 = .ok (.iload 4, 2) := by decide +kernel
theorem dL_lay_351 : decode cL_lay 351 = .ok (.bipush 16, 2) := by decide +kernel
theorem dL_lay_353 : decode cL_lay 353 = .ok (.if_icmp .ge 153, 3) := by decide +kernel
theorem dL_lay_356 : decode cL_lay 356 = .ok (.aload_n 2, 1) := by decide +kernel
theorem dL_lay_357 : decode cL_lay 357 = .ok (.bipush 90, 2) := by decide +kernel
theorem dL_lay_359 : decode cL_lay 359 = .ok (.iload 4, 2) := by decide +kernel
theorem dL_lay_361 : decode cL_lay 361 = .ok (.iadd, 1) := by decide +kernel
theorem dL_lay_362 : decode cL_lay 362 = .ok (.aload_n 1, 1) := by decide +kernel
theorem dL_lay_363 : decode cL_lay 363 = .ok (.iconst 1, 1) := by decide +kernel
theorem dL_lay_364 : decode cL_lay 364 = .ok (.iaload, 1) := by decide +kernel
theorem dL_lay_365 : decode cL_lay 365 = .ok (.invokestatic 154, 3) := by decide +kernel
theorem dL_lay_368 : decode cL_lay 368 = .ok (.istore 5, 2) := by decide +kernel
theorem dL_lay_370 : decode cL_lay 370 = .ok (.aload_n 2, 1) := by decide +kernel
theorem dL_lay_371 : decode cL_lay 371 = .ok (.bipush 110, 2) := by decide +kernel
theorem dL_lay_373 : decode cL_lay 373 = .ok (.iload 4, 2) := by decide +kernel
theorem dL_lay_375 : decode cL_lay 375 = .ok (.iadd, 1) := by decide +kernel
theorem dL_lay_376 : decode cL_lay 376 = .ok (.iconst 4, 1) := by decide +kernel
theorem dL_lay_377 : decode cL_lay 377 = .ok (.invokestatic 154, 3) := by decide +kernel
theorem dL_lay_380 : decode cL_lay 380 = .ok (.istore 6, 2) := by decide +kernel
theorem dL_lay_382 : decode cL_lay 382 = .ok (.aload_n 2, 1) := by decide +kernel
theorem dL_lay_383 : decode cL_lay 383 = .ok (.sipush 130, 3) := by decide +kernel
theorem dL_lay_386 : decode cL_lay 386 = .ok (.iload 4, 2) := by decide +kernel
theorem dL_lay_388 : decode cL_lay 388 = .ok (.iadd, 1) := by decide +kernel
theorem dL_lay_389 : decode cL_lay 389 = .ok (.bipush 12, 2) := by decide +kernel
theorem dL_lay_391 : decode cL_lay 391 = .ok (.invokestatic 154, 3) := by decide +kernel
theorem dL_lay_394 : decode cL_lay 394 = .ok (.istore 7, 2) := by decide +kernel
theorem dL_lay_396 : decode cL_lay 396 = .ok (.iload_n 3, 1) := by decide +kernel
theorem dL_lay_397 : decode cL_lay 397 = .ok (.iload 6, 2) := by decide +kernel
theorem dL_lay_399 : decode cL_lay 399 = .ok (.ifCond .ne 34, 3) := by decide +kernel
theorem dL_lay_402 : decode cL_lay 402 = .ok (.aload_n 0, 1) := by decide +kernel
theorem dL_lay_403 : decode cL_lay 403 = .ok (.iconst 5, 1) := by decide +kernel
theorem dL_lay_404 : decode cL_lay 404 = .ok (.iload 5, 2) := by decide +kernel
theorem dL_lay_406 : decode cL_lay 406 = .ok (.iload 7, 2) := by decide +kernel
theorem dL_lay_408 : decode cL_lay 408 = .ok (.aload_n 1, 1) := by decide +kernel
theorem dL_lay_409 : decode cL_lay 409 = .ok (.iconst 1, 1) := by decide +kernel
theorem dL_lay_410 : decode cL_lay 410 = .ok (.iaload, 1) := by decide +kernel
theorem dL_lay_411 : decode cL_lay 411 = .ok (.irem, 1) := by decide +kernel
theorem dL_lay_412 : decode cL_lay 412 = .ok (.iconst 1, 1) := by decide +kernel
theorem dL_lay_413 : decode cL_lay 413 = .ok (.aload_n 2, 1) := by decide +kernel
theorem dL_lay_414 : decode cL_lay 414 = .ok (.sipush 150, 3) := by decide +kernel
theorem dL_lay_417 : decode cL_lay 417 = .ok (.iload 4, 2) := by decide +kernel
theorem dL_lay_419 : decode cL_lay 419 = .ok (.iadd, 1) := by decide +kernel
theorem dL_lay_420 : decode cL_lay 420 = .ok (.bipush 9, 2) := by decide +kernel
theorem dL_lay_422 : decode cL_lay 422 = .ok (.invokestatic 154, 3) := by decide +kernel
theorem dL_lay_425 : decode cL_lay 425 = .ok (.iadd, 1) := by decide +kernel
theorem dL_lay_426 : decode cL_lay 426 = .ok (.iconst 0, 1) := by decide +kernel
theorem dL_lay_427 : decode cL_lay 427 = .ok (.invokestatic 158, 3) := by decide +kernel
theorem dL_lay_430 : decode cL_lay 430 = .ok (.goto 68, 3) := by decide +kernel
theorem dL_lay_433 : decode cL_lay 433 = .ok (.iload 6, 2) := by decide +kernel
theorem dL_lay_435 : decode cL_lay 435 = .ok (.iconst 1, 1) := by decide +kernel
theorem dL_lay_436 : decode cL_lay 436 = .ok (.if_icmp .ne 33, 3) := by decide +kernel
theorem dL_lay_439 : decode cL_lay 439 = .ok (.aload_n 0, 1) := by decide +kernel
theorem dL_lay_440 : decode cL_lay 440 = .ok (.bipush 7, 2) := by decide +kernel
theorem dL_lay_442 : decode cL_lay 442 = .ok (.iload 5, 2) := by decide +kernel
theorem dL_lay_444 : decode cL_lay 444 = .ok (.iload 7, 2) := by decide +kernel
theorem dL_lay_446 : decode cL_lay 446 = .ok (.iconst 3, 1) := by decide +kernel
theorem dL_lay_447 : decode cL_lay 447 = .ok (.irem, 1) := by decide +kernel
theorem dL_lay_448 : decode cL_lay 448 = .ok (.iconst 1, 1) := by decide +kernel
theorem dL_lay_449 : decode cL_lay 449 = .ok (.aload_n 2, 1) := by decide +kernel
theorem dL_lay_450 : decode cL_lay 450 = .ok (.sipush 150, 3) := by decide +kernel
theorem dL_lay_453 : decode cL_lay 453 = .ok (.iload 4, 2) := by decide +kernel
theorem dL_lay_455 : decode cL_lay 455 = .ok (.iadd, 1) := by decide +kernel
theorem dL_lay_456 : decode cL_lay 456 = .ok (.bipush 99, 2) := by decide +kernel
theorem dL_lay_458 : decode cL_lay 458 = .ok (.invokestatic 154, 3) := by decide +kernel
theorem dL_lay_461 : decode cL_lay 461 = .ok (.iadd, 1) := by decide +kernel
theorem dL_lay_462 : decode cL_lay 462 = .ok (.iconst 0, 1) := by decide +kernel
theorem dL_lay_463 : decode cL_lay 463 = .ok (.invokestatic 158, 3) := by decide +kernel
theorem dL_lay_466 : decode cL_lay 466 = .ok (.goto 32, 3) := by decide +kernel
theorem dL_lay_469 : decode cL_lay 469 = .ok (.aload_n 0, 1) := by decide +kernel
theorem dL_lay_470 : decode cL_lay 470 = .ok (.bipush 6, 2) := by decide +kernel
theorem dL_lay_472 : decode cL_lay 472 = .ok (.iload 5, 2) := by decide +kernel
theorem dL_lay_474 : decode cL_lay 474 = .ok (.iload 7, 2) := by decide +kernel
theorem dL_lay_476 : decode cL_lay 476 = .ok (.aload_n 1, 1) := by decide +kernel
theorem dL_lay_477 : decode cL_lay 477 = .ok (.iconst 0, 1) := by decide +kernel
theorem dL_lay_478 : decode cL_lay 478 = .ok (.iaload, 1) := by decide +kernel
theorem dL_lay_479 : decode cL_lay 479 = .ok (.irem, 1) := by decide +kernel
theorem dL_lay_480 : decode cL_lay 480 = .ok (.iconst 1, 1) := by decide +kernel
theorem dL_lay_481 : decode cL_lay 481 = .ok (.aload_n 2, 1) := by decide +kernel
theorem dL_lay_482 : decode cL_lay 482 = .ok (.sipush 150, 3) := by decide +kernel
theorem dL_lay_485 : decode cL_lay 485 = .ok (.iload 4, 2) := by decide +kernel
theorem dL_lay_487 : decode cL_lay 487 = .ok (.iadd, 1) := by decide +kernel
theorem dL_lay_488 : decode cL_lay 488 = .ok (.bipush 99, 2) := by decide +kernel
theorem dL_lay_490 : decode cL_lay 490 = .ok (.invokestatic 154, 3) := by decide +kernel
theorem dL_lay_493 : decode cL_lay 493 = .ok (.iadd, 1) := by decide +kernel
theorem dL_lay_494 : decode cL_lay 494 = .ok (.iconst 0, 1) := by decide +kernel
theorem dL_lay_495 : decode cL_lay 495 = .ok (.invokestatic 158, 3) := by decide +kernel
theorem dL_lay_498 : decode cL_lay 498 = .ok (.iadd, 1) := by decide +kernel
theorem dL_lay_499 : decode cL_lay 499 = .ok (.istore_n 3, 1) := by decide +kernel
theorem dL_lay_500 : decode cL_lay 500 = .ok (.iinc 4 1, 3) := by decide +kernel
theorem dL_lay_503 : decode cL_lay 503 = .ok (.goto (-154), 3) := by decide +kernel
theorem dL_lay_506 : decode cL_lay 506 = .ok (.iconst 0, 1) := by decide +kernel
theorem dL_lay_507 : decode cL_lay 507 = .ok (.istore 4, 2) := by decide +kernel
theorem dL_lay_509 : decode cL_lay 509 = .ok (.iload 4, 2) := by decide +kernel
theorem dL_lay_511 : decode cL_lay 511 = .ok (.aload_n 2, 1) := by decide +kernel
theorem dL_lay_512 : decode cL_lay 512 = .ok (.iconst 3, 1) := by decide +kernel
theorem dL_lay_513 : decode cL_lay 513 = .ok (.iconst 5, 1) := by decide +kernel
theorem dL_lay_514 : decode cL_lay 514 = .ok (.invokestatic 154, 3) := by decide +kernel
theorem dL_lay_517 : decode cL_lay 517 = .ok (.if_icmp .ge 159, 3) := by decide +kernel
theorem dL_lay_520 : decode cL_lay 520 = .ok (.aload_n 1, 1) := by decide +kernel
theorem dL_lay_521 : decode cL_lay 521 = .ok (.iconst 2, 1) := by decide +kernel
theorem dL_lay_522 : decode cL_lay 522 = .ok (.dup2, 1) := by decide +kernel
theorem dL_lay_523 : decode cL_lay 523 = .ok (.iaload, 1) := by decide +kernel
theorem dL_lay_524 : decode cL_lay 524 = .ok (.aload_n 0, 1) := by decide +kernel
theorem dL_lay_525 : decode cL_lay 525 = .ok (.bipush 9, 2) := by decide +kernel
theorem dL_lay_527 : decode cL_lay 527 = .ok (.aload_n 2, 1) := by decide +kernel
theorem dL_lay_528 : decode cL_lay 528 = .ok (.sipush 170, 3) := by decide +kernel
theorem dL_lay_531 : decode cL_lay 531 = .ok (.iload 4, 2) := by decide +kernel
theorem dL_lay_533 : decode cL_lay 533 = .ok (.iadd, 1) := by decide +kernel
theorem dL_lay_534 : decode cL_lay 534 = .ok (.aload_n 1, 1) := by decide +kernel
theorem dL_lay_535 : decode cL_lay 535 = .ok (.iconst 1, 1) := by decide +kernel
theorem dL_lay_536 : decode cL_lay 536 = .ok (.iaload, 1) := by decide +kernel
theorem dL_lay_537 : decode cL_lay 537 = .ok (.invokestatic 154, 3) := by decide +kernel
theorem dL_lay_540 : decode cL_lay 540 = .ok (.iconst 0, 1) := by decide +kernel
theorem dL_lay_541 : decode cL_lay 541 = .ok (.iconst 0, 1) := by decide +kernel
theorem dL_lay_542 : decode cL_lay 542 = .ok (.iconst 0, 1) := by decide +kernel
theorem dL_lay_543 : decode cL_lay 543 = .ok (.invokestatic 158, 3) := by decide +kernel
theorem dL_lay_546 : decode cL_lay 546 = .ok (.ifCond .lt 7, 3) := by decide +kernel
theorem dL_lay_549 : decode cL_lay 549 = .ok (.iconst 1, 1) := by decide +kernel
theorem dL_lay_550 : decode cL_lay 550 = .ok (.goto 4, 3) := by decide +kernel
theorem dL_lay_553 : decode cL_lay 553 = .ok (.iconst 0, 1) := by decide +kernel
theorem dL_lay_554 : decode cL_lay 554 = .ok (.iadd, 1) := by decide +kernel
theorem dL_lay_555 : decode cL_lay 555 = .ok (.iastore, 1) := by decide +kernel
theorem dL_lay_556 : decode cL_lay 556 = .ok (.iconst 0, 1) := by decide +kernel
theorem dL_lay_557 : decode cL_lay 557 = .ok (.istore 5, 2) := by decide +kernel
theorem dL_lay_559 : decode cL_lay 559 = .ok (.iload 5, 2) := by decide +kernel
theorem dL_lay_561 : decode cL_lay 561 = .ok (.iconst 3, 1) := by decide +kernel
theorem dL_lay_562 : decode cL_lay 562 = .ok (.if_icmp .ge 108, 3) := by decide +kernel
theorem dL_lay_565 : decode cL_lay 565 = .ok (.iload_n 3, 1) := by decide +kernel
theorem dL_lay_566 : decode cL_lay 566 = .ok (.aload_n 0, 1) := by decide +kernel
theorem dL_lay_567 : decode cL_lay 567 = .ok (.iload 4, 2) := by decide +kernel
theorem dL_lay_569 : decode cL_lay 569 = .ok (.aload_n 2, 1) := by decide +kernel
theorem dL_lay_570 : decode cL_lay 570 = .ok (.sipush 180, 3) := by decide +kernel
theorem dL_lay_573 : decode cL_lay 573 = .ok (.iconst 3, 1) := by decide +kernel
theorem dL_lay_574 : decode cL_lay 574 = .ok (.iload 4, 2) := by decide +kernel
theorem dL_lay_576 : decode cL_lay 576 = .ok (.imul, 1) := by decide +kernel
theorem dL_lay_577 : decode cL_lay 577 = .ok (.iadd, 1) := by decide +kernel
theorem dL_lay_578 : decode cL_lay 578 = .ok (.iload 5, 2) := by decide +kernel
theorem dL_lay_580 : decode cL_lay 580 = .ok (.iadd, 1) := by decide +kernel
theorem dL_lay_581 : decode cL_lay 581 = .ok (.bipush 6, 2) := by decide +kernel
theorem dL_lay_583 : decode cL_lay 583 = .ok (.invokestatic 154, 3) := by decide +kernel
theorem dL_lay_586 : decode cL_lay 586 = .ok (.invokestatic 161, 3) := by decide +kernel
theorem dL_lay_589 : decode cL_lay 589 = .ok (.iconst 1, 1) := by decide +kernel
theorem dL_lay_590 : decode cL_lay 590 = .ok (.aload_n 2, 1) := by decide +kernel
theorem dL_lay_591 : decode cL_lay 591 = .ok (.sipush 200, 3) := by decide +kernel
theorem dL_lay_594 : decode cL_lay 594 = .ok (.iconst 3, 1) := by decide +kernel
theorem dL_lay_595 : decode cL_lay 595 = .ok (.iload 4, 2) := by decide +kernel
theorem dL_lay_597 : decode cL_lay 597 = .ok (.imul, 1) := by decide +kernel
theorem dL_lay_598 : decode cL_lay 598 = .ok (.iadd, 1) := by decide +kernel
theorem dL_lay_599 : decode cL_lay 599 = .ok (.iload 5, 2) := by decide +kernel
theorem dL_lay_601 : decode cL_lay 601 = .ok (.iadd, 1) := by decide +kernel
theorem dL_lay_602 : decode cL_lay 602 = .ok (.bipush 9, 2) := by decide +kernel
theorem dL_lay_604 : decode cL_lay 604 = .ok (.invokestatic 154, 3) := by decide +kernel
theorem dL_lay_607 : decode cL_lay 607 = .ok (.iadd, 1) := by decide +kernel
theorem dL_lay_608 : decode cL_lay 608 = .ok (.aload_n 2, 1) := by decide +kernel
theorem dL_lay_609 : decode cL_lay 609 = .ok (.sipush 220, 3) := by decide +kernel
theorem dL_lay_612 : decode cL_lay 612 = .ok (.iconst 3, 1) := by decide +kernel
theorem dL_lay_613 : decode cL_lay 613 = .ok (.iload 4, 2) := by decide +kernel
theorem dL_lay_615 : decode cL_lay 615 = .ok (.imul, 1) := by decide +kernel
theorem dL_lay_616 : decode cL_lay 616 = .ok (.iadd, 1) := by decide +kernel
theorem dL_lay_617 : decode cL_lay 617 = .ok (.iload 5, 2) := by decide +kernel
theorem dL_lay_619 : decode cL_lay 619 = .ok (.iadd, 1) := by decide +kernel
theorem dL_lay_620 : decode cL_lay 620 = .ok (.bipush 20, 2) := by decide +kernel
theorem dL_lay_622 : decode cL_lay 622 = .ok (.invokestatic 154, 3) := by decide +kernel
theorem dL_lay_625 : decode cL_lay 625 = .ok (.aload_n 2, 1) := by decide +kernel
theorem dL_lay_626 : decode cL_lay 626 = .ok (.sipush 240, 3) := by decide +kernel
theorem dL_lay_629 : decode cL_lay 629 = .ok (.iconst 3, 1) := by decide +kernel
theorem dL_lay_630 : decode cL_lay 630 = .ok (.iload 4, 2) := by decide +kernel
theorem dL_lay_632 : decode cL_lay 632 = .ok (.imul, 1) := by decide +kernel
theorem dL_lay_633 : decode cL_lay 633 = .ok (.iadd, 1) := by decide +kernel
theorem dL_lay_634 : decode cL_lay 634 = .ok (.iload 5, 2) := by decide +kernel
theorem dL_lay_636 : decode cL_lay 636 = .ok (.iadd, 1) := by decide +kernel
theorem dL_lay_637 : decode cL_lay 637 = .ok (.bipush 20, 2) := by decide +kernel
theorem dL_lay_639 : decode cL_lay 639 = .ok (.invokestatic 154, 3) := by decide +kernel
theorem dL_lay_642 : decode cL_lay 642 = .ok (.aload_n 2, 1) := by decide +kernel
theorem dL_lay_643 : decode cL_lay 643 = .ok (.sipush 260, 3) := by decide +kernel
theorem dL_lay_646 : decode cL_lay 646 = .ok (.iconst 3, 1) := by decide +kernel
theorem dL_lay_647 : decode cL_lay 647 = .ok (.iload 4, 2) := by decide +kernel
theorem dL_lay_649 : decode cL_lay 649 = .ok (.imul, 1) := by decide +kernel
theorem dL_lay_650 : decode cL_lay 650 = .ok (.iadd, 1) := by decide +kernel
theorem dL_lay_651 : decode cL_lay 651 = .ok (.iload 5, 2) := by decide +kernel
theorem dL_lay_653 : decode cL_lay 653 = .ok (.iadd, 1) := by decide +kernel
theorem dL_lay_654 : decode cL_lay 654 = .ok (.bipush 9, 2) := by decide +kernel
theorem dL_lay_656 : decode cL_lay 656 = .ok (.invokestatic 154, 3) := by decide +kernel
theorem dL_lay_659 : decode cL_lay 659 = .ok (.invokestatic 165, 3) := by decide +kernel
theorem dL_lay_662 : decode cL_lay 662 = .ok (.iadd, 1) := by decide +kernel
theorem dL_lay_663 : decode cL_lay 663 = .ok (.istore_n 3, 1) := by decide +kernel
theorem dL_lay_664 : decode cL_lay 664 = .ok (.iinc 5 1, 3) := by decide +kernel
theorem dL_lay_667 : decode cL_lay 667 = .ok (.goto (-108), 3) := by decide +kernel
theorem dL_lay_670 : decode cL_lay 670 = .ok (.iinc 4 1, 3) := by decide +kernel
theorem dL_lay_673 : decode cL_lay 673 = .ok (.goto (-164), 3) := by decide +kernel
theorem dL_lay_676 : decode cL_lay 676 = .ok (.iconst 0, 1) := by decide +kernel
theorem dL_lay_677 : decode cL_lay 677 = .ok (.istore 4, 2) := by decide +kernel
theorem dL_lay_679 : decode cL_lay 679 = .ok (.iload 4, 2) := by decide +kernel
theorem dL_lay_681 : decode cL_lay 681 = .ok (.aload_n 2, 1) := by decide +kernel
theorem dL_lay_682 : decode cL_lay 682 = .ok (.iconst 4, 1) := by decide +kernel
theorem dL_lay_683 : decode cL_lay 683 = .ok (.iconst 5, 1) := by decide +kernel
theorem dL_lay_684 : decode cL_lay 684 = .ok (.invokestatic 154, 3) := by decide +kernel
theorem dL_lay_687 : decode cL_lay 687 = .ok (.if_icmp .ge 142, 3) := by decide +kernel
theorem dL_lay_690 : decode cL_lay 690 = .ok (.aload_n 1, 1) := by decide +kernel
theorem dL_lay_691 : decode cL_lay 691 = .ok (.iconst 3, 1) := by decide +kernel
theorem dL_lay_692 : decode cL_lay 692 = .ok (.dup2, 1) := by decide +kernel
theorem dL_lay_693 : decode cL_lay 693 = .ok (.iaload, 1) := by decide +kernel
theorem dL_lay_694 : decode cL_lay 694 = .ok (.aload_n 0, 1) := by decide +kernel
theorem dL_lay_695 : decode cL_lay 695 = .ok (.bipush 11, 2) := by decide +kernel
theorem dL_lay_697 : decode cL_lay 697 = .ok (.iconst 0, 1) := by decide +kernel
theorem dL_lay_698 : decode cL_lay 698 = .ok (.iconst 0, 1) := by decide +kernel
theorem dL_lay_699 : decode cL_lay 699 = .ok (.iconst 0, 1) := by decide +kernel
theorem dL_lay_700 : decode cL_lay 700 = .ok (.iconst 0, 1) := by decide +kernel
theorem dL_lay_701 : decode cL_lay 701 = .ok (.invokestatic 158, 3) := by decide +kernel
theorem dL_lay_704 : decode cL_lay 704 = .ok (.ifCond .lt 7, 3) := by decide +kernel
theorem dL_lay_707 : decode cL_lay 707 = .ok (.iconst 1, 1) := by decide +kernel
theorem dL_lay_708 : decode cL_lay 708 = .ok (.goto 4, 3) := by decide +kernel
theorem dL_lay_711 : decode cL_lay 711 = .ok (.iconst 0, 1) := by decide +kernel
theorem dL_lay_712 : decode cL_lay 712 = .ok (.iadd, 1) := by decide +kernel
theorem dL_lay_713 : decode cL_lay 713 = .ok (.iastore, 1) := by decide +kernel
theorem dL_lay_714 : decode cL_lay 714 = .ok (.iconst 0, 1) := by decide +kernel
theorem dL_lay_715 : decode cL_lay 715 = .ok (.istore 5, 2) := by decide +kernel
theorem dL_lay_717 : decode cL_lay 717 = .ok (.iload 5, 2) := by decide +kernel
theorem dL_lay_719 : decode cL_lay 719 = .ok (.iconst 3, 1) := by decide +kernel
theorem dL_lay_720 : decode cL_lay 720 = .ok (.if_icmp .ge 103, 3) := by decide +kernel
theorem dL_lay_723 : decode cL_lay 723 = .ok (.iload_n 3, 1) := by decide +kernel
theorem dL_lay_724 : decode cL_lay 724 = .ok (.aload_n 0, 1) := by decide +kernel
theorem dL_lay_725 : decode cL_lay 725 = .ok (.bipush 12, 2) := by decide +kernel
theorem dL_lay_727 : decode cL_lay 727 = .ok (.iload 4, 2) := by decide +kernel
theorem dL_lay_729 : decode cL_lay 729 = .ok (.aload_n 2, 1) := by decide +kernel
theorem dL_lay_730 : decode cL_lay 730 = .ok (.sipush 280, 3) := by decide +kernel
theorem dL_lay_733 : decode cL_lay 733 = .ok (.iconst 3, 1) := by decide +kernel
theorem dL_lay_734 : decode cL_lay 734 = .ok (.iload 4, 2) := by decide +kernel
theorem dL_lay_736 : decode cL_lay 736 = .ok (.imul, 1) := by decide +kernel
theorem dL_lay_737 : decode cL_lay 737 = .ok (.iadd, 1) := by decide +kernel
theorem dL_lay_738 : decode cL_lay 738 = .ok (.iload 5, 2) := by decide +kernel
theorem dL_lay_740 : decode cL_lay 740 = .ok (.iadd, 1) := by decide +kernel
theorem dL_lay_741 : decode cL_lay 741 = .ok (.aload_n 1, 1) := by decide +kernel
theorem dL_lay_742 : decode cL_lay 742 = .ok (.iconst 1, 1) := by decide +kernel
theorem dL_lay_743 : decode cL_lay 743 = .ok (.iaload, 1) := by decide +kernel
theorem dL_lay_744 : decode cL_lay 744 = .ok (.invokestatic 154, 3) := by decide +kernel
theorem dL_lay_747 : decode cL_lay 747 = .ok (.aload_n 2, 1) := by decide +kernel
theorem dL_lay_748 : decode cL_lay 748 = .ok (.sipush 300, 3) := by decide +kernel
theorem dL_lay_751 : decode cL_lay 751 = .ok (.iconst 3, 1) := by decide +kernel
theorem dL_lay_752 : decode cL_lay 752 = .ok (.iload 4, 2) := by decide +kernel
theorem dL_lay_754 : decode cL_lay 754 = .ok (.imul, 1) := by decide +kernel
theorem dL_lay_755 : decode cL_lay 755 = .ok (.iadd, 1) := by decide +kernel
theorem dL_lay_756 : decode cL_lay 756 = .ok (.iload 5, 2) := by decide +kernel
theorem dL_lay_758 : decode cL_lay 758 = .ok (.iadd, 1) := by decide +kernel
theorem dL_lay_759 : decode cL_lay 759 = .ok (.aload_n 1, 1) := by decide +kernel
theorem dL_lay_760 : decode cL_lay 760 = .ok (.iconst 1, 1) := by decide +kernel
theorem dL_lay_761 : decode cL_lay 761 = .ok (.iaload, 1) := by decide +kernel
theorem dL_lay_762 : decode cL_lay 762 = .ok (.invokestatic 154, 3) := by decide +kernel
theorem dL_lay_765 : decode cL_lay 765 = .ok (.iconst 0, 1) := by decide +kernel
theorem dL_lay_766 : decode cL_lay 766 = .ok (.invokestatic 158, 3) := by decide +kernel
theorem dL_lay_769 : decode cL_lay 769 = .ok (.aload_n 0, 1) := by decide +kernel
theorem dL_lay_770 : decode cL_lay 770 = .ok (.bipush 13, 2) := by decide +kernel
theorem dL_lay_772 : decode cL_lay 772 = .ok (.iload 4, 2) := by decide +kernel
theorem dL_lay_774 : decode cL_lay 774 = .ok (.aload_n 2, 1) := by decide +kernel
theorem dL_lay_775 : decode cL_lay 775 = .ok (.sipush 320, 3) := by decide +kernel
theorem dL_lay_778 : decode cL_lay 778 = .ok (.iconst 3, 1) := by decide +kernel
theorem dL_lay_779 : decode cL_lay 779 = .ok (.iload 4, 2) := by decide +kernel
theorem dL_lay_781 : decode cL_lay 781 = .ok (.imul, 1) := by decide +kernel
theorem dL_lay_782 : decode cL_lay 782 = .ok (.iadd, 1) := by decide +kernel
theorem dL_lay_783 : decode cL_lay 783 = .ok (.iload 5, 2) := by decide +kernel
theorem dL_lay_785 : decode cL_lay 785 = .ok (.iadd, 1) := by decide +kernel
theorem dL_lay_786 : decode cL_lay 786 = .ok (.aload_n 1, 1) := by decide +kernel
theorem dL_lay_787 : decode cL_lay 787 = .ok (.iconst 0, 1) := by decide +kernel
theorem dL_lay_788 : decode cL_lay 788 = .ok (.iaload, 1) := by decide +kernel
theorem dL_lay_789 : decode cL_lay 789 = .ok (.invokestatic 154, 3) := by decide +kernel
theorem dL_lay_792 : decode cL_lay 792 = .ok (.aload_n 2, 1) := by decide +kernel
theorem dL_lay_793 : decode cL_lay 793 = .ok (.sipush 340, 3) := by decide +kernel
theorem dL_lay_796 : decode cL_lay 796 = .ok (.iconst 3, 1) := by decide +kernel
theorem dL_lay_797 : decode cL_lay 797 = .ok (.iload 4, 2) := by decide +kernel
theorem dL_lay_799 : decode cL_lay 799 = .ok (.imul, 1) := by decide +kernel
theorem dL_lay_800 : decode cL_lay 800 = .ok (.iadd, 1) := by decide +kernel
theorem dL_lay_801 : decode cL_lay 801 = .ok (.iload 5, 2) := by decide +kernel
theorem dL_lay_803 : decode cL_lay 803 = .ok (.iadd, 1) := by decide +kernel
theorem dL_lay_804 : decode cL_lay 804 = .ok (.aload_n 1, 1) := by decide +kernel
theorem dL_lay_805 : decode cL_lay 805 = .ok (.iconst 0, 1) := by decide +kernel
theorem dL_lay_806 : decode cL_lay 806 = .ok (.iaload, 1) := by decide +kernel
theorem dL_lay_807 : decode cL_lay 807 = .ok (.invokestatic 154, 3) := by decide +kernel
theorem dL_lay_810 : decode cL_lay 810 = .ok (.iconst 0, 1) := by decide +kernel
theorem dL_lay_811 : decode cL_lay 811 = .ok (.invokestatic 158, 3) := by decide +kernel
theorem dL_lay_814 : decode cL_lay 814 = .ok (.iadd, 1) := by decide +kernel
theorem dL_lay_815 : decode cL_lay 815 = .ok (.iadd, 1) := by decide +kernel
theorem dL_lay_816 : decode cL_lay 816 = .ok (.istore_n 3, 1) := by decide +kernel
theorem dL_lay_817 : decode cL_lay 817 = .ok (.iinc 5 1, 3) := by decide +kernel
theorem dL_lay_820 : decode cL_lay 820 = .ok (.goto (-103), 3) := by decide +kernel
theorem dL_lay_823 : decode cL_lay 823 = .ok (.iinc 4 1, 3) := by decide +kernel
theorem dL_lay_826 : decode cL_lay 826 = .ok (.goto (-147), 3) := by decide +kernel
theorem dL_lay_829 : decode cL_lay 829 = .ok (.iconst 0, 1) := by decide +kernel
theorem dL_lay_830 : decode cL_lay 830 = .ok (.istore 4, 2) := by decide +kernel
theorem dL_lay_832 : decode cL_lay 832 = .ok (.iload 4, 2) := by decide +kernel
theorem dL_lay_834 : decode cL_lay 834 = .ok (.aload_n 2, 1) := by decide +kernel
theorem dL_lay_835 : decode cL_lay 835 = .ok (.iconst 5, 1) := by decide +kernel
theorem dL_lay_836 : decode cL_lay 836 = .ok (.iconst 5, 1) := by decide +kernel
theorem dL_lay_837 : decode cL_lay 837 = .ok (.invokestatic 154, 3) := by decide +kernel
theorem dL_lay_840 : decode cL_lay 840 = .ok (.if_icmp .ge 58, 3) := by decide +kernel
theorem dL_lay_843 : decode cL_lay 843 = .ok (.aload_n 1, 1) := by decide +kernel
theorem dL_lay_844 : decode cL_lay 844 = .ok (.iconst 4, 1) := by decide +kernel
theorem dL_lay_845 : decode cL_lay 845 = .ok (.dup2, 1) := by decide +kernel
theorem dL_lay_846 : decode cL_lay 846 = .ok (.iaload, 1) := by decide +kernel
theorem dL_lay_847 : decode cL_lay 847 = .ok (.aload_n 0, 1) := by decide +kernel
theorem dL_lay_848 : decode cL_lay 848 = .ok (.bipush 15, 2) := by decide +kernel
theorem dL_lay_850 : decode cL_lay 850 = .ok (.aload_n 2, 1) := by decide +kernel
theorem dL_lay_851 : decode cL_lay 851 = .ok (.sipush 360, 3) := by decide +kernel
theorem dL_lay_854 : decode cL_lay 854 = .ok (.iload 4, 2) := by decide +kernel
theorem dL_lay_856 : decode cL_lay 856 = .ok (.iadd, 1) := by decide +kernel
theorem dL_lay_857 : decode cL_lay 857 = .ok (.bipush 51, 2) := by decide +kernel
theorem dL_lay_859 : decode cL_lay 859 = .ok (.invokestatic 154, 3) := by decide +kernel
theorem dL_lay_862 : decode cL_lay 862 = .ok (.aload_n 2, 1) := by decide +kernel
theorem dL_lay_863 : decode cL_lay 863 = .ok (.sipush 370, 3) := by decide +kernel
theorem dL_lay_866 : decode cL_lay 866 = .ok (.iload 4, 2) := by decide +kernel
theorem dL_lay_868 : decode cL_lay 868 = .ok (.iadd, 1) := by decide +kernel
theorem dL_lay_869 : decode cL_lay 869 = .ok (.bipush 16, 2) := by decide +kernel
theorem dL_lay_871 : decode cL_lay 871 = .ok (.iload 4, 2) := by decide +kernel
theorem dL_lay_873 : decode cL_lay 873 = .ok (.ishl, 1) := by decide +kernel
theorem dL_lay_874 : decode cL_lay 874 = .ok (.invokestatic 154, 3) := by decide +kernel
theorem dL_lay_877 : decode cL_lay 877 = .ok (.iconst 0, 1) := by decide +kernel
theorem dL_lay_878 : decode cL_lay 878 = .ok (.iconst 0, 1) := by decide +kernel
theorem dL_lay_879 : decode cL_lay 879 = .ok (.invokestatic 158, 3) := by decide +kernel
theorem dL_lay_882 : decode cL_lay 882 = .ok (.ifCond .lt 7, 3) := by decide +kernel
theorem dL_lay_885 : decode cL_lay 885 = .ok (.iconst 1, 1) := by decide +kernel
theorem dL_lay_886 : decode cL_lay 886 = .ok (.goto 4, 3) := by decide +kernel
theorem dL_lay_889 : decode cL_lay 889 = .ok (.iconst 0, 1) := by decide +kernel
theorem dL_lay_890 : decode cL_lay 890 = .ok (.iadd, 1) := by decide +kernel
theorem dL_lay_891 : decode cL_lay 891 = .ok (.iastore, 1) := by decide +kernel
theorem dL_lay_892 : decode cL_lay 892 = .ok (.iinc 4 1, 3) := by decide +kernel
theorem dL_lay_895 : decode cL_lay 895 = .ok (.goto (-63), 3) := by decide +kernel
theorem dL_lay_898 : decode cL_lay 898 = .ok (.iload_n 3, 1) := by decide +kernel
theorem dL_lay_899 : decode cL_lay 899 = .ok (.ireturn, 1) := by decide +kernel
