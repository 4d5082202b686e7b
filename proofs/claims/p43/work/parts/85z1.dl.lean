theorem dL_areSums_0 : decode cL_areSums 0 = .ok (.lconst 0, 1) := by decide +kernel
theorem dL_areSums_1 : decode cL_areSums 1 = .ok (.lstore_n 2, 1) := by decide +kernel
theorem dL_areSums_2 : decode cL_areSums 2 = .ok (.lconst 0, 1) := by decide +kernel
theorem dL_areSums_3 : decode cL_areSums 3 = .ok (.lstore 4, 2) := by decide +kernel
theorem dL_areSums_5 : decode cL_areSums 5 = .ok (.lconst 0, 1) := by decide +kernel
theorem dL_areSums_6 : decode cL_areSums 6 = .ok (.lstore 6, 2) := by decide +kernel
theorem dL_areSums_8 : decode cL_areSums 8 = .ok (.lconst 0, 1) := by decide +kernel
theorem dL_areSums_9 : decode cL_areSums 9 = .ok (.lstore 8, 2) := by decide +kernel
theorem dL_areSums_11 : decode cL_areSums 11 = .ok (.lconst 0, 1) := by decide +kernel
theorem dL_areSums_12 : decode cL_areSums 12 = .ok (.lstore 10, 2) := by decide +kernel
theorem dL_areSums_14 : decode cL_areSums 14 = .ok (.iconst 1, 1) := by decide +kernel
theorem dL_areSums_15 : decode cL_areSums 15 = .ok (.istore 12, 2) := by decide +kernel
theorem dL_areSums_17 : decode cL_areSums 17 = .ok (.iconst 0, 1) := by decide +kernel
theorem dL_areSums_18 : decode cL_areSums 18 = .ok (.istore 13, 2) := by decide +kernel
theorem dL_areSums_20 : decode cL_areSums 20 = .ok (.iload 13, 2) := by decide +kernel
theorem dL_areSums_22 : decode cL_areSums 22 = .ok (.aload_n 1, 1) := by decide +kernel
theorem dL_areSums_23 : decode cL_areSums 23 = .ok (.iconst 0, 1) := by decide +kernel
theorem dL_areSums_24 : decode cL_areSums 24 = .ok (.iaload, 1) := by decide +kernel
theorem dL_areSums_25 : decode cL_areSums 25 = .ok (.if_icmp .ge 169, 3) := by decide +kernel
theorem dL_areSums_28 : decode cL_areSums 28 = .ok (.iload 12, 2) := by decide +kernel
theorem dL_areSums_30 : decode cL_areSums 30 = .ok (.ifCond .eq 164, 3) := by decide +kernel
theorem dL_areSums_33 : decode cL_areSums 33 = .ok (.aload_n 0, 1) := by decide +kernel
theorem dL_areSums_34 : decode cL_areSums 34 = .ok (.bipush 7, 2) := by decide +kernel
theorem dL_areSums_36 : decode cL_areSums 36 = .ok (.iload 13, 2) := by decide +kernel
theorem dL_areSums_38 : decode cL_areSums 38 = .ok (.iconst 0, 1) := by decide +kernel
theorem dL_areSums_39 : decode cL_areSums 39 = .ok (.invokestatic 169, 3) := by decide +kernel
theorem dL_areSums_42 : decode cL_areSums 42 = .ok (.lstore 14, 2) := by decide +kernel
theorem dL_areSums_44 : decode cL_areSums 44 = .ok (.lload 14, 2) := by decide +kernel
theorem dL_areSums_46 : decode cL_areSums 46 = .ok (.lload 14, 2) := by decide +kernel
theorem dL_areSums_48 : decode cL_areSums 48 = .ok (.aload_n 1, 1) := by decide +kernel
theorem dL_areSums_49 : decode cL_areSums 49 = .ok (.bipush 11, 2) := by decide +kernel
theorem dL_areSums_51 : decode cL_areSums 51 = .ok (.iconst 3, 1) := by decide +kernel
theorem dL_areSums_52 : decode cL_areSums 52 = .ok (.iload 13, 2) := by decide +kernel
theorem dL_areSums_54 : decode cL_areSums 54 = .ok (.imul, 1) := by decide +kernel
theorem dL_areSums_55 : decode cL_areSums 55 = .ok (.iadd, 1) := by decide +kernel
theorem dL_areSums_56 : decode cL_areSums 56 = .ok (.iaload, 1) := by decide +kernel
theorem dL_areSums_57 : decode cL_areSums 57 = .ok (.i2l, 1) := by decide +kernel
theorem dL_areSums_58 : decode cL_areSums 58 = .ok (.lmul, 1) := by decide +kernel
theorem dL_areSums_59 : decode cL_areSums 59 = .ok (.ldc2_w 172, 3) := by decide +kernel
theorem dL_areSums_62 : decode cL_areSums 62 = .ok (.ladd, 1) := by decide +kernel
theorem dL_areSums_63 : decode cL_areSums 63 = .ok (.ldc2_w 174, 3) := by decide +kernel
theorem dL_areSums_66 : decode cL_areSums 66 = .ok (.ldiv, 1) := by decide +kernel
theorem dL_areSums_67 : decode cL_areSums 67 = .ok (.ladd, 1) := by decide +kernel
theorem dL_areSums_68 : decode cL_areSums 68 = .ok (.lstore 16, 2) := by decide +kernel
theorem dL_areSums_70 : decode cL_areSums 70 = .ok (.aload_n 0, 1) := by decide +kernel
theorem dL_areSums_71 : decode cL_areSums 71 = .ok (.bipush 9, 2) := by decide +kernel
theorem dL_areSums_73 : decode cL_areSums 73 = .ok (.iload 13, 2) := by decide +kernel
theorem dL_areSums_75 : decode cL_areSums 75 = .ok (.iconst 0, 1) := by decide +kernel
theorem dL_areSums_76 : decode cL_areSums 76 = .ok (.invokestatic 169, 3) := by decide +kernel
theorem dL_areSums_79 : decode cL_areSums 79 = .ok (.lstore 18, 2) := by decide +kernel
theorem dL_areSums_81 : decode cL_areSums 81 = .ok (.aload_n 1, 1) := by decide +kernel
theorem dL_areSums_82 : decode cL_areSums 82 = .ok (.bipush 12, 2) := by decide +kernel
theorem dL_areSums_84 : decode cL_areSums 84 = .ok (.iconst 3, 1) := by decide +kernel
theorem dL_areSums_85 : decode cL_areSums 85 = .ok (.iload 13, 2) := by decide +kernel
theorem dL_areSums_87 : decode cL_areSums 87 = .ok (.imul, 1) := by decide +kernel
theorem dL_areSums_88 : decode cL_areSums 88 = .ok (.iadd, 1) := by decide +kernel
theorem dL_areSums_89 : decode cL_areSums 89 = .ok (.iaload, 1) := by decide +kernel
theorem dL_areSums_90 : decode cL_areSums 90 = .ok (.istore 20, 2) := by decide +kernel
theorem dL_areSums_92 : decode cL_areSums 92 = .ok (.lload 14, 2) := by decide +kernel
theorem dL_areSums_94 : decode cL_areSums 94 = .ok (.lconst 0, 1) := by decide +kernel
theorem dL_areSums_95 : decode cL_areSums 95 = .ok (.lcmp, 1) := by decide +kernel
theorem dL_areSums_96 : decode cL_areSums 96 = .ok (.ifCond .lt 48, 3) := by decide +kernel
theorem dL_areSums_99 : decode cL_areSums 99 = .ok (.lload 14, 2) := by decide +kernel
theorem dL_areSums_101 : decode cL_areSums 101 = .ok (.aload_n 0, 1) := by decide +kernel
theorem dL_areSums_102 : decode cL_areSums 102 = .ok (.bipush 8, 2) := by decide +kernel
theorem dL_areSums_104 : decode cL_areSums 104 = .ok (.iload 13, 2) := by decide +kernel
theorem dL_areSums_106 : decode cL_areSums 106 = .ok (.iconst 0, 1) := by decide +kernel
theorem dL_areSums_107 : decode cL_areSums 107 = .ok (.invokestatic 169, 3) := by decide +kernel
theorem dL_areSums_110 : decode cL_areSums 110 = .ok (.lcmp, 1) := by decide +kernel
theorem dL_areSums_111 : decode cL_areSums 111 = .ok (.ifCond .ne 33, 3) := by decide +kernel
theorem dL_areSums_114 : decode cL_areSums 114 = .ok (.lload 18, 2) := by decide +kernel
theorem dL_areSums_116 : decode cL_areSums 116 = .ok (.iload 20, 2) := by decide +kernel
theorem dL_areSums_118 : decode cL_areSums 118 = .ok (.i2l, 1) := by decide +kernel
theorem dL_areSums_119 : decode cL_areSums 119 = .ok (.lmul, 1) := by decide +kernel
theorem dL_areSums_120 : decode cL_areSums 120 = .ok (.lload 16, 2) := by decide +kernel
theorem dL_areSums_122 : decode cL_areSums 122 = .ok (.lcmp, 1) := by decide +kernel
theorem dL_areSums_123 : decode cL_areSums 123 = .ok (.ifCond .lt 21, 3) := by decide +kernel
theorem dL_areSums_126 : decode cL_areSums 126 = .ok (.lload 18, 2) := by decide +kernel
theorem dL_areSums_128 : decode cL_areSums 128 = .ok (.lconst 1, 1) := by decide +kernel
theorem dL_areSums_129 : decode cL_areSums 129 = .ok (.lsub, 1) := by decide +kernel
theorem dL_areSums_130 : decode cL_areSums 130 = .ok (.iload 20, 2) := by decide +kernel
theorem dL_areSums_132 : decode cL_areSums 132 = .ok (.i2l, 1) := by decide +kernel
theorem dL_areSums_133 : decode cL_areSums 133 = .ok (.lmul, 1) := by decide +kernel
theorem dL_areSums_134 : decode cL_areSums 134 = .ok (.lload 16, 2) := by decide +kernel
theorem dL_areSums_136 : decode cL_areSums 136 = .ok (.lcmp, 1) := by decide +kernel
theorem dL_areSums_137 : decode cL_areSums 137 = .ok (.ifCond .ge 7, 3) := by decide +kernel
theorem dL_areSums_140 : decode cL_areSums 140 = .ok (.iconst 1, 1) := by decide +kernel
theorem dL_areSums_141 : decode cL_areSums 141 = .ok (.goto 4, 3) := by decide +kernel
theorem dL_areSums_144 : decode cL_areSums 144 = .ok (.iconst 0, 1) := by decide +kernel
theorem dL_areSums_145 : decode cL_areSums 145 = .ok (.istore 12, 2) := by decide +kernel
theorem dL_areSums_147 : decode cL_areSums 147 = .ok (.lload_n 2, 1) := by decide +kernel
theorem dL_areSums_148 : decode cL_areSums 148 = .ok (.lload 14, 2) := by decide +kernel
theorem dL_areSums_150 : decode cL_areSums 150 = .ok (.aload_n 1, 1) := by decide +kernel
theorem dL_areSums_151 : decode cL_areSums 151 = .ok (.bipush 10, 2) := by decide +kernel
theorem dL_areSums_153 : decode cL_areSums 153 = .ok (.iconst 3, 1) := by decide +kernel
theorem dL_areSums_154 : decode cL_areSums 154 = .ok (.iload 13, 2) := by decide +kernel
theorem dL_areSums_156 : decode cL_areSums 156 = .ok (.imul, 1) := by decide +kernel
theorem dL_areSums_157 : decode cL_areSums 157 = .ok (.iadd, 1) := by decide +kernel
theorem dL_areSums_158 : decode cL_areSums 158 = .ok (.iaload, 1) := by decide +kernel
theorem dL_areSums_159 : decode cL_areSums 159 = .ok (.i2l, 1) := by decide +kernel
theorem dL_areSums_160 : decode cL_areSums 160 = .ok (.lmul, 1) := by decide +kernel
theorem dL_areSums_161 : decode cL_areSums 161 = .ok (.ladd, 1) := by decide +kernel
theorem dL_areSums_162 : decode cL_areSums 162 = .ok (.lstore_n 2, 1) := by decide +kernel
theorem dL_areSums_163 : decode cL_areSums 163 = .ok (.lload 8, 2) := by decide +kernel
theorem dL_areSums_165 : decode cL_areSums 165 = .ok (.lload 18, 2) := by decide +kernel
theorem dL_areSums_167 : decode cL_areSums 167 = .ok (.iload 20, 2) := by decide +kernel
theorem dL_areSums_169 : decode cL_areSums 169 = .ok (.i2l, 1) := by decide +kernel
theorem dL_areSums_170 : decode cL_areSums 170 = .ok (.lmul, 1) := by decide +kernel
theorem dL_areSums_171 : decode cL_areSums 171 = .ok (.lload 14, 2) := by decide +kernel
theorem dL_areSums_173 : decode cL_areSums 173 = .ok (.lsub, 1) := by decide +kernel
theorem dL_areSums_174 : decode cL_areSums 174 = .ok (.aload_n 1, 1) := by decide +kernel
theorem dL_areSums_175 : decode cL_areSums 175 = .ok (.bipush 10, 2) := by decide +kernel
theorem dL_areSums_177 : decode cL_areSums 177 = .ok (.iconst 3, 1) := by decide +kernel
theorem dL_areSums_178 : decode cL_areSums 178 = .ok (.iload 13, 2) := by decide +kernel
theorem dL_areSums_180 : decode cL_areSums 180 = .ok (.imul, 1) := by decide +kernel
theorem dL_areSums_181 : decode cL_areSums 181 = .ok (.iadd, 1) := by decide +kernel
theorem dL_areSums_182 : decode cL_areSums 182 = .ok (.iaload, 1) := by decide +kernel
theorem dL_areSums_183 : decode cL_areSums 183 = .ok (.i2l, 1) := by decide +kernel
theorem dL_areSums_184 : decode cL_areSums 184 = .ok (.lmul, 1) := by decide +kernel
theorem dL_areSums_185 : decode cL_areSums 185 = .ok (.ladd, 1) := by decide +kernel
theorem dL_areSums_186 : decode cL_areSums 186 = .ok (.lstore 8, 2) := by decide +kernel
theorem dL_areSums_188 : decode cL_areSums 188 = .ok (.iinc 13 1, 3) := by decide +kernel
theorem dL_areSums_191 : decode cL_areSums 191 = .ok (.goto (-171), 3) := by decide +kernel
theorem dL_areSums_194 : decode cL_areSums 194 = .ok (.iconst 0, 1) := by decide +kernel
theorem dL_areSums_195 : decode cL_areSums 195 = .ok (.istore 13, 2) := by decide +kernel
theorem dL_areSums_197 : decode cL_areSums 197 = .ok (.iload 13, 2) := by decide +kernel
theorem dL_areSums_199 : decode cL_areSums 199 = .ok (.aload_n 1, 1) := by decide +kernel
theorem dL_areSums_200 : decode cL_areSums 200 = .ok (.iconst 2, 1) := by decide +kernel
theorem dL_areSums_201 : decode cL_areSums 201 = .ok (.iaload, 1) := by decide +kernel
theorem dL_areSums_202 : decode cL_areSums 202 = .ok (.if_icmp .ge 23, 3) := by decide +kernel
theorem dL_areSums_205 : decode cL_areSums 205 = .ok (.lload 4, 2) := by decide +kernel
theorem dL_areSums_207 : decode cL_areSums 207 = .ok (.aload_n 0, 1) := by decide +kernel
theorem dL_areSums_208 : decode cL_areSums 208 = .ok (.bipush 10, 2) := by decide +kernel
theorem dL_areSums_210 : decode cL_areSums 210 = .ok (.iload 13, 2) := by decide +kernel
theorem dL_areSums_212 : decode cL_areSums 212 = .ok (.iconst 0, 1) := by decide +kernel
theorem dL_areSums_213 : decode cL_areSums 213 = .ok (.invokestatic 169, 3) := by decide +kernel
theorem dL_areSums_216 : decode cL_areSums 216 = .ok (.ladd, 1) := by decide +kernel
theorem dL_areSums_217 : decode cL_areSums 217 = .ok (.lstore 4, 2) := by decide +kernel
theorem dL_areSums_219 : decode cL_areSums 219 = .ok (.iinc 13 1, 3) := by decide +kernel
theorem dL_areSums_222 : decode cL_areSums 222 = .ok (.goto (-25), 3) := by decide +kernel
theorem dL_areSums_225 : decode cL_areSums 225 = .ok (.iconst 0, 1) := by decide +kernel
theorem dL_areSums_226 : decode cL_areSums 226 = .ok (.istore 13, 2) := by decide +kernel
theorem dL_areSums_228 : decode cL_areSums 228 = .ok (.iload 13, 2) := by decide +kernel
theorem dL_areSums_230 : decode cL_areSums 230 = .ok (.bipush 6, 2) := by decide +kernel
theorem dL_areSums_232 : decode cL_areSums 232 = .ok (.if_icmp .ge 23, 3) := by decide +kernel
theorem dL_areSums_235 : decode cL_areSums 235 = .ok (.lload 6, 2) := by decide +kernel
theorem dL_areSums_237 : decode cL_areSums 237 = .ok (.aload_n 0, 1) := by decide +kernel
theorem dL_areSums_238 : decode cL_areSums 238 = .ok (.bipush 11, 2) := by decide +kernel
theorem dL_areSums_240 : decode cL_areSums 240 = .ok (.iload 13, 2) := by decide +kernel
theorem dL_areSums_242 : decode cL_areSums 242 = .ok (.iconst 0, 1) := by decide +kernel
theorem dL_areSums_243 : decode cL_areSums 243 = .ok (.invokestatic 169, 3) := by decide +kernel
theorem dL_areSums_246 : decode cL_areSums 246 = .ok (.ladd, 1) := by decide +kernel
theorem dL_areSums_247 : decode cL_areSums 247 = .ok (.lstore 6, 2) := by decide +kernel
theorem dL_areSums_249 : decode cL_areSums 249 = .ok (.iinc 13 1, 3) := by decide +kernel
theorem dL_areSums_252 : decode cL_areSums 252 = .ok (.goto (-24), 3) := by decide +kernel
theorem dL_areSums_255 : decode cL_areSums 255 = .ok (.aload_n 0, 1) := by decide +kernel
theorem dL_areSums_256 : decode cL_areSums 256 = .ok (.invokevirtual 176, 3) := by decide +kernel
theorem dL_areSums_259 : decode cL_areSums 259 = .ok (.lstore 13, 2) := by decide +kernel
theorem dL_areSums_261 : decode cL_areSums 261 = .ok (.lload 13, 2) := by decide +kernel
theorem dL_areSums_263 : decode cL_areSums 263 = .ok (.lload 8, 2) := by decide +kernel
theorem dL_areSums_265 : decode cL_areSums 265 = .ok (.ladd, 1) := by decide +kernel
theorem dL_areSums_266 : decode cL_areSums 266 = .ok (.lstore 10, 2) := by decide +kernel
theorem dL_areSums_268 : decode cL_areSums 268 = .ok (.iconst 0, 1) := by decide +kernel
theorem dL_areSums_269 : decode cL_areSums 269 = .ok (.istore 15, 2) := by decide +kernel
theorem dL_areSums_271 : decode cL_areSums 271 = .ok (.iload 15, 2) := by decide +kernel
theorem dL_areSums_273 : decode cL_areSums 273 = .ok (.aload_n 1, 1) := by decide +kernel
theorem dL_areSums_274 : decode cL_areSums 274 = .ok (.iconst 4, 1) := by decide +kernel
theorem dL_areSums_275 : decode cL_areSums 275 = .ok (.iaload, 1) := by decide +kernel
theorem dL_areSums_276 : decode cL_areSums 276 = .ok (.if_icmp .ge 23, 3) := by decide +kernel
theorem dL_areSums_279 : decode cL_areSums 279 = .ok (.lload 10, 2) := by decide +kernel
theorem dL_areSums_281 : decode cL_areSums 281 = .ok (.aload_n 0, 1) := by decide +kernel
theorem dL_areSums_282 : decode cL_areSums 282 = .ok (.bipush 6, 2) := by decide +kernel
theorem dL_areSums_284 : decode cL_areSums 284 = .ok (.iload 15, 2) := by decide +kernel
theorem dL_areSums_286 : decode cL_areSums 286 = .ok (.iconst 0, 1) := by decide +kernel
theorem dL_areSums_287 : decode cL_areSums 287 = .ok (.invokestatic 169, 3) := by decide +kernel
theorem dL_areSums_290 : decode cL_areSums 290 = .ok (.ladd, 1) := by decide +kernel
theorem dL_areSums_291 : decode cL_areSums 291 = .ok (.lstore 10, 2) := by decide +kernel
theorem dL_areSums_293 : decode cL_areSums 293 = .ok (.iinc 15 1, 3) := by decide +kernel
theorem dL_areSums_296 : decode cL_areSums 296 = .ok (.goto (-25), 3) := by decide +kernel
theorem dL_areSums_299 : decode cL_areSums 299 = .ok (.iload 12, 2) := by decide +kernel
theorem dL_areSums_301 : decode cL_areSums 301 = .ok (.ifCond .eq 82, 3) := by decide +kernel
theorem dL_areSums_304 : decode cL_areSums 304 = .ok (.lload 13, 2) := by decide +kernel
theorem dL_areSums_306 : decode cL_areSums 306 = .ok (.lload_n 2, 1) := by decide +kernel
theorem dL_areSums_307 : decode cL_areSums 307 = .ok (.lcmp, 1) := by decide +kernel
theorem dL_areSums_308 : decode cL_areSums 308 = .ok (.ifCond .ne 75, 3) := by decide +kernel
theorem dL_areSums_311 : decode cL_areSums 311 = .ok (.lload 13, 2) := by decide +kernel
theorem dL_areSums_313 : decode cL_areSums 313 = .ok (.lload 4, 2) := by decide +kernel
theorem dL_areSums_315 : decode cL_areSums 315 = .ok (.lcmp, 1) := by decide +kernel
theorem dL_areSums_316 : decode cL_areSums 316 = .ok (.ifCond .ne 67, 3) := by decide +kernel
theorem dL_areSums_319 : decode cL_areSums 319 = .ok (.lload 13, 2) := by decide +kernel
theorem dL_areSums_321 : decode cL_areSums 321 = .ok (.lload 6, 2) := by decide +kernel
theorem dL_areSums_323 : decode cL_areSums 323 = .ok (.lcmp, 1) := by decide +kernel
theorem dL_areSums_324 : decode cL_areSums 324 = .ok (.ifCond .ne 59, 3) := by decide +kernel
theorem dL_areSums_327 : decode cL_areSums 327 = .ok (.lload 13, 2) := by decide +kernel
theorem dL_areSums_329 : decode cL_areSums 329 = .ok (.aload_n 0, 1) := by decide +kernel
theorem dL_areSums_330 : decode cL_areSums 330 = .ok (.bipush 12, 2) := by decide +kernel
theorem dL_areSums_332 : decode cL_areSums 332 = .ok (.iconst 0, 1) := by decide +kernel
theorem dL_areSums_333 : decode cL_areSums 333 = .ok (.iconst 0, 1) := by decide +kernel
theorem dL_areSums_334 : decode cL_areSums 334 = .ok (.invokestatic 169, 3) := by decide +kernel
theorem dL_areSums_337 : decode cL_areSums 337 = .ok (.aload_n 0, 1) := by decide +kernel
theorem dL_areSums_338 : decode cL_areSums 338 = .ok (.bipush 12, 2) := by decide +kernel
theorem dL_areSums_340 : decode cL_areSums 340 = .ok (.iconst 1, 1) := by decide +kernel
theorem dL_areSums_341 : decode cL_areSums 341 = .ok (.iconst 0, 1) := by decide +kernel
theorem dL_areSums_342 : decode cL_areSums 342 = .ok (.invokestatic 169, 3) := by decide +kernel
theorem dL_areSums_345 : decode cL_areSums 345 = .ok (.ladd, 1) := by decide +kernel
theorem dL_areSums_346 : decode cL_areSums 346 = .ok (.aload_n 0, 1) := by decide +kernel
theorem dL_areSums_347 : decode cL_areSums 347 = .ok (.bipush 12, 2) := by decide +kernel
theorem dL_areSums_349 : decode cL_areSums 349 = .ok (.iconst 2, 1) := by decide +kernel
theorem dL_areSums_350 : decode cL_areSums 350 = .ok (.iconst 0, 1) := by decide +kernel
theorem dL_areSums_351 : decode cL_areSums 351 = .ok (.invokestatic 169, 3) := by decide +kernel
theorem dL_areSums_354 : decode cL_areSums 354 = .ok (.ladd, 1) := by decide +kernel
theorem dL_areSums_355 : decode cL_areSums 355 = .ok (.lcmp, 1) := by decide +kernel
theorem dL_areSums_356 : decode cL_areSums 356 = .ok (.ifCond .ne 27, 3) := by decide +kernel
theorem dL_areSums_359 : decode cL_areSums 359 = .ok (.aload_n 0, 1) := by decide +kernel
theorem dL_areSums_360 : decode cL_areSums 360 = .ok (.invokevirtual 180, 3) := by decide +kernel
theorem dL_areSums_363 : decode cL_areSums 363 = .ok (.lload 8, 2) := by decide +kernel
theorem dL_areSums_365 : decode cL_areSums 365 = .ok (.lcmp, 1) := by decide +kernel
theorem dL_areSums_366 : decode cL_areSums 366 = .ok (.ifCond .ne 17, 3) := by decide +kernel
theorem dL_areSums_369 : decode cL_areSums 369 = .ok (.aload_n 0, 1) := by decide +kernel
theorem dL_areSums_370 : decode cL_areSums 370 = .ok (.invokevirtual 183, 3) := by decide +kernel
theorem dL_areSums_373 : decode cL_areSums 373 = .ok (.lload 10, 2) := by decide +kernel
theorem dL_areSums_375 : decode cL_areSums 375 = .ok (.lcmp, 1) := by decide +kernel
theorem dL_areSums_376 : decode cL_areSums 376 = .ok (.ifCond .ne 7, 3) := by decide +kernel
theorem dL_areSums_379 : decode cL_areSums 379 = .ok (.iconst 1, 1) := by decide +kernel
theorem dL_areSums_380 : decode cL_areSums 380 = .ok (.goto 4, 3) := by decide +kernel
theorem dL_areSums_383 : decode cL_areSums 383 = .ok (.iconst 0, 1) := by decide +kernel
theorem dL_areSums_384 : decode cL_areSums 384 = .ok (.istore 12, 2) := by decide +kernel
theorem dL_areSums_386 : decode cL_areSums 386 = .ok (.iload 12, 2) := by decide +kernel
theorem dL_areSums_388 : decode cL_areSums 388 = .ok (.ifCond .eq 98, 3) := by decide +kernel
theorem dL_areSums_391 : decode cL_areSums 391 = .ok (.aload_n 0, 1) := by decide +kernel
theorem dL_areSums_392 : decode cL_areSums 392 = .ok (.bipush 7, 2) := by decide +kernel
theorem dL_areSums_394 : decode cL_areSums 394 = .ok (.aload_n 1, 1) := by decide +kernel
theorem dL_areSums_395 : decode cL_areSums 395 = .ok (.iconst 0, 1) := by decide +kernel
theorem dL_areSums_396 : decode cL_areSums 396 = .ok (.iaload, 1) := by decide +kernel
theorem dL_areSums_397 : decode cL_areSums 397 = .ok (.iconst 0, 1) := by decide +kernel
theorem dL_areSums_398 : decode cL_areSums 398 = .ok (.invokestatic 169, 3) := by decide +kernel
theorem dL_areSums_401 : decode cL_areSums 401 = .ok (.ldc2_w 144, 3) := by decide +kernel
theorem dL_areSums_404 : decode cL_areSums 404 = .ok (.lcmp, 1) := by decide +kernel
theorem dL_areSums_405 : decode cL_areSums 405 = .ok (.ifCond .ne 81, 3) := by decide +kernel
theorem dL_areSums_408 : decode cL_areSums 408 = .ok (.aload_n 0, 1) := by decide +kernel
theorem dL_areSums_409 : decode cL_areSums 409 = .ok (.bipush 10, 2) := by decide +kernel
theorem dL_areSums_411 : decode cL_areSums 411 = .ok (.aload_n 1, 1) := by decide +kernel
theorem dL_areSums_412 : decode cL_areSums 412 = .ok (.iconst 2, 1) := by decide +kernel
theorem dL_areSums_413 : decode cL_areSums 413 = .ok (.iaload, 1) := by decide +kernel
theorem dL_areSums_414 : decode cL_areSums 414 = .ok (.iconst 0, 1) := by decide +kernel
theorem dL_areSums_415 : decode cL_areSums 415 = .ok (.invokestatic 169, 3) := by decide +kernel
theorem dL_areSums_418 : decode cL_areSums 418 = .ok (.ldc2_w 144, 3) := by decide +kernel
theorem dL_areSums_421 : decode cL_areSums 421 = .ok (.lcmp, 1) := by decide +kernel
theorem dL_areSums_422 : decode cL_areSums 422 = .ok (.ifCond .ne 64, 3) := by decide +kernel
theorem dL_areSums_425 : decode cL_areSums 425 = .ok (.aload_n 0, 1) := by decide +kernel
theorem dL_areSums_426 : decode cL_areSums 426 = .ok (.bipush 11, 2) := by decide +kernel
theorem dL_areSums_428 : decode cL_areSums 428 = .ok (.bipush 6, 2) := by decide +kernel
theorem dL_areSums_430 : decode cL_areSums 430 = .ok (.iconst 0, 1) := by decide +kernel
theorem dL_areSums_431 : decode cL_areSums 431 = .ok (.invokestatic 169, 3) := by decide +kernel
theorem dL_areSums_434 : decode cL_areSums 434 = .ok (.ldc2_w 146, 3) := by decide +kernel
theorem dL_areSums_437 : decode cL_areSums 437 = .ok (.lcmp, 1) := by decide +kernel
theorem dL_areSums_438 : decode cL_areSums 438 = .ok (.ifCond .ne 48, 3) := by decide +kernel
theorem dL_areSums_441 : decode cL_areSums 441 = .ok (.aload_n 0, 1) := by decide +kernel
theorem dL_areSums_442 : decode cL_areSums 442 = .ok (.bipush 12, 2) := by decide +kernel
theorem dL_areSums_444 : decode cL_areSums 444 = .ok (.iconst 3, 1) := by decide +kernel
theorem dL_areSums_445 : decode cL_areSums 445 = .ok (.iconst 0, 1) := by decide +kernel
theorem dL_areSums_446 : decode cL_areSums 446 = .ok (.invokestatic 169, 3) := by decide +kernel
theorem dL_areSums_449 : decode cL_areSums 449 = .ok (.ldc2_w 146, 3) := by decide +kernel
theorem dL_areSums_452 : decode cL_areSums 452 = .ok (.lcmp, 1) := by decide +kernel
theorem dL_areSums_453 : decode cL_areSums 453 = .ok (.ifCond .ne 33, 3) := by decide +kernel
theorem dL_areSums_456 : decode cL_areSums 456 = .ok (.aload_n 0, 1) := by decide +kernel
theorem dL_areSums_457 : decode cL_areSums 457 = .ok (.bipush 6, 2) := by decide +kernel
theorem dL_areSums_459 : decode cL_areSums 459 = .ok (.aload_n 1, 1) := by decide +kernel
theorem dL_areSums_460 : decode cL_areSums 460 = .ok (.iconst 4, 1) := by decide +kernel
theorem dL_areSums_461 : decode cL_areSums 461 = .ok (.iaload, 1) := by decide +kernel
theorem dL_areSums_462 : decode cL_areSums 462 = .ok (.iconst 0, 1) := by decide +kernel
theorem dL_areSums_463 : decode cL_areSums 463 = .ok (.invokestatic 169, 3) := by decide +kernel
theorem dL_areSums_466 : decode cL_areSums 466 = .ok (.ldc2_w 144, 3) := by decide +kernel
theorem dL_areSums_469 : decode cL_areSums 469 = .ok (.lcmp, 1) := by decide +kernel
theorem dL_areSums_470 : decode cL_areSums 470 = .ok (.ifCond .ne 16, 3) := by decide +kernel
theorem dL_areSums_473 : decode cL_areSums 473 = .ok (.aload_n 0, 1) := by decide +kernel
theorem dL_areSums_474 : decode cL_areSums 474 = .ok (.lload 13, 2) := by decide +kernel
theorem dL_areSums_476 : decode cL_areSums 476 = .ok (.invokestatic 186, 3) := by decide +kernel
theorem dL_areSums_479 : decode cL_areSums 479 = .ok (.ifCond .eq 7, 3) := by decide +kernel
theorem dL_areSums_482 : decode cL_areSums 482 = .ok (.iconst 1, 1) := by decide +kernel
theorem dL_areSums_483 : decode cL_areSums 483 = .ok (.goto 4, 3) := by decide +kernel
theorem dL_areSums_486 : decode cL_areSums 486 = .ok (.iconst 0, 1) := by decide +kernel
theorem dL_areSums_487 : decode cL_areSums 487 = .ok (.ireturn, 1) := by decide +kernel
theorem dL_isShared_0 : decode cL_isShared 0 = .ok (.aload_n 0, 1) := by decide +kernel
theorem dL_isShared_1 : decode cL_isShared 1 = .ok (.iconst 0, 1) := by decide +kernel
theorem dL_isShared_2 : decode cL_isShared 2 = .ok (.invokevirtual 190, 3) := by decide +kernel
theorem dL_isShared_5 : decode cL_isShared 5 = .ok (.fstore_n 3, 1) := by decide +kernel
theorem dL_isShared_6 : decode cL_isShared 6 = .ok (.lload_n 1, 1) := by decide +kernel
theorem dL_isShared_7 : decode cL_isShared 7 = .ok (.lconst 0, 1) := by decide +kernel
theorem dL_isShared_8 : decode cL_isShared 8 = .ok (.lcmp, 1) := by decide +kernel
theorem dL_isShared_9 : decode cL_isShared 9 = .ok (.ifCond .eq 40, 3) := by decide +kernel
theorem dL_isShared_12 : decode cL_isShared 12 = .ok (.fload_n 3, 1) := by decide +kernel
theorem dL_isShared_13 : decode cL_isShared 13 = .ok (.aload_n 0, 1) := by decide +kernel
theorem dL_isShared_14 : decode cL_isShared 14 = .ok (.bipush 12, 2) := by decide +kernel
theorem dL_isShared_16 : decode cL_isShared 16 = .ok (.iconst 0, 1) := by decide +kernel
theorem dL_isShared_17 : decode cL_isShared 17 = .ok (.iconst 0, 1) := by decide +kernel
theorem dL_isShared_18 : decode cL_isShared 18 = .ok (.invokestatic 169, 3) := by decide +kernel
theorem dL_isShared_21 : decode cL_isShared 21 = .ok (.l2f, 1) := by decide +kernel
theorem dL_isShared_22 : decode cL_isShared 22 = .ok (.lload_n 1, 1) := by decide +kernel
theorem dL_isShared_23 : decode cL_isShared 23 = .ok (.l2f, 1) := by decide +kernel
theorem dL_isShared_24 : decode cL_isShared 24 = .ok (.fdiv, 1) := by decide +kernel
theorem dL_isShared_25 : decode cL_isShared 25 = .ok (.fcmp .l, 1) := by decide +kernel
theorem dL_isShared_26 : decode cL_isShared 26 = .ok (.ifCond .ne 23, 3) := by decide +kernel
theorem dL_isShared_29 : decode cL_isShared 29 = .ok (.aload_n 0, 1) := by decide +kernel
theorem dL_isShared_30 : decode cL_isShared 30 = .ok (.invokevirtual 194, 3) := by decide +kernel
theorem dL_isShared_33 : decode cL_isShared 33 = .ok (.aload_n 0, 1) := by decide +kernel
theorem dL_isShared_34 : decode cL_isShared 34 = .ok (.invokevirtual 183, 3) := by decide +kernel
theorem dL_isShared_37 : decode cL_isShared 37 = .ok (.l2d, 1) := by decide +kernel
theorem dL_isShared_38 : decode cL_isShared 38 = .ok (.lload_n 1, 1) := by decide +kernel
theorem dL_isShared_39 : decode cL_isShared 39 = .ok (.l2d, 1) := by decide +kernel
theorem dL_isShared_40 : decode cL_isShared 40 = .ok (.ddiv, 1) := by decide +kernel
theorem dL_isShared_41 : decode cL_isShared 41 = .ok (.dcmp .l, 1) := by decide +kernel
theorem dL_isShared_42 : decode cL_isShared 42 = .ok (.ifCond .ne 7, 3) := by decide +kernel
theorem dL_isShared_45 : decode cL_isShared 45 = .ok (.iconst 1, 1) := by decide +kernel
theorem dL_isShared_46 : decode cL_isShared 46 = .ok (.goto 4, 3) := by decide +kernel
theorem dL_isShared_49 : decode cL_isShared 49 = .ok (.iconst 0, 1) := by decide +kernel
theorem dL_isShared_50 : decode cL_isShared 50 = .ok (.ireturn, 1) := by decide +kernel
theorem dL_isShared_51 : decode cL_isShared 51 = .ok (.astore_n 3, 1) := by decide +kernel
theorem dL_isShared_52 : decode cL_isShared 52 = .ok (.lload_n 1, 1) := by decide +kernel
theorem dL_isShared_53 : decode cL_isShared 53 = .ok (.lconst 0, 1) := by decide +kernel
theorem dL_isShared_54 : decode cL_isShared 54 = .ok (.lcmp, 1) := by decide +kernel
theorem dL_isShared_55 : decode cL_isShared 55 = .ok (.ifCond .ne 7, 3) := by decide +kernel
theorem dL_isShared_58 : decode cL_isShared 58 = .ok (.iconst 1, 1) := by decide +kernel
theorem dL_isShared_59 : decode cL_isShared 59 = .ok (.goto 4, 3) := by decide +kernel
theorem dL_isShared_62 : decode cL_isShared 62 = .ok (.iconst 0, 1) := by decide +kernel
theorem dL_isShared_63 : decode cL_isShared 63 = .ok (.ireturn, 1) := by decide +kernel
