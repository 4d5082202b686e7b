theorem dL_areOrders_0 : decode cL_areOrders 0 = .ok (.iconst 1, 1) := by decide +kernel
theorem dL_areOrders_1 : decode cL_areOrders 1 = .ok (.istore_n 2, 1) := by decide +kernel
theorem dL_areOrders_2 : decode cL_areOrders 2 = .ok (.iconst 0, 1) := by decide +kernel
theorem dL_areOrders_3 : decode cL_areOrders 3 = .ok (.istore_n 3, 1) := by decide +kernel
theorem dL_areOrders_4 : decode cL_areOrders 4 = .ok (.iconst 0, 1) := by decide +kernel
theorem dL_areOrders_5 : decode cL_areOrders 5 = .ok (.istore 4, 2) := by decide +kernel
theorem dL_areOrders_7 : decode cL_areOrders 7 = .ok (.iload 4, 2) := by decide +kernel
theorem dL_areOrders_9 : decode cL_areOrders 9 = .ok (.aload_n 1, 1) := by decide +kernel
theorem dL_areOrders_10 : decode cL_areOrders 10 = .ok (.iconst 0, 1) := by decide +kernel
theorem dL_areOrders_11 : decode cL_areOrders 11 = .ok (.iaload, 1) := by decide +kernel
theorem dL_areOrders_12 : decode cL_areOrders 12 = .ok (.if_icmp .ge 42, 3) := by decide +kernel
theorem dL_areOrders_15 : decode cL_areOrders 15 = .ok (.iload_n 3, 1) := by decide +kernel
theorem dL_areOrders_16 : decode cL_areOrders 16 = .ok (.aload_n 0, 1) := by decide +kernel
theorem dL_areOrders_17 : decode cL_areOrders 17 = .ok (.bipush 7, 2) := by decide +kernel
theorem dL_areOrders_19 : decode cL_areOrders 19 = .ok (.iload 4, 2) := by decide +kernel
theorem dL_areOrders_21 : decode cL_areOrders 21 = .ok (.iconst 0, 1) := by decide +kernel
theorem dL_areOrders_22 : decode cL_areOrders 22 = .ok (.invokestatic 169, 3) := by decide +kernel
theorem dL_areOrders_25 : decode cL_areOrders 25 = .ok (.aload_n 1, 1) := by decide +kernel
theorem dL_areOrders_26 : decode cL_areOrders 26 = .ok (.bipush 10, 2) := by decide +kernel
theorem dL_areOrders_28 : decode cL_areOrders 28 = .ok (.iconst 3, 1) := by decide +kernel
theorem dL_areOrders_29 : decode cL_areOrders 29 = .ok (.iload 4, 2) := by decide +kernel
theorem dL_areOrders_31 : decode cL_areOrders 31 = .ok (.imul, 1) := by decide +kernel
theorem dL_areOrders_32 : decode cL_areOrders 32 = .ok (.iadd, 1) := by decide +kernel
theorem dL_areOrders_33 : decode cL_areOrders 33 = .ok (.iaload, 1) := by decide +kernel
theorem dL_areOrders_34 : decode cL_areOrders 34 = .ok (.i2l, 1) := by decide +kernel
theorem dL_areOrders_35 : decode cL_areOrders 35 = .ok (.lmul, 1) := by decide +kernel
theorem dL_areOrders_36 : decode cL_areOrders 36 = .ok (.lconst 0, 1) := by decide +kernel
theorem dL_areOrders_37 : decode cL_areOrders 37 = .ok (.lcmp, 1) := by decide +kernel
theorem dL_areOrders_38 : decode cL_areOrders 38 = .ok (.ifCond .le 7, 3) := by decide +kernel
theorem dL_areOrders_41 : decode cL_areOrders 41 = .ok (.iconst 1, 1) := by decide +kernel
theorem dL_areOrders_42 : decode cL_areOrders 42 = .ok (.goto 4, 3) := by decide +kernel
theorem dL_areOrders_45 : decode cL_areOrders 45 = .ok (.iconst 0, 1) := by decide +kernel
theorem dL_areOrders_46 : decode cL_areOrders 46 = .ok (.iadd, 1) := by decide +kernel
theorem dL_areOrders_47 : decode cL_areOrders 47 = .ok (.istore_n 3, 1) := by decide +kernel
theorem dL_areOrders_48 : decode cL_areOrders 48 = .ok (.iinc 4 1, 3) := by decide +kernel
theorem dL_areOrders_51 : decode cL_areOrders 51 = .ok (.goto (-44), 3) := by decide +kernel
theorem dL_areOrders_54 : decode cL_areOrders 54 = .ok (.ldc2_w 200, 3) := by decide +kernel
theorem dL_areOrders_57 : decode cL_areOrders 57 = .ok (.lstore 4, 2) := by decide +kernel
theorem dL_areOrders_59 : decode cL_areOrders 59 = .ok (.iconst (-1), 1) := by decide +kernel
theorem dL_areOrders_60 : decode cL_areOrders 60 = .ok (.istore 6, 2) := by decide +kernel
theorem dL_areOrders_62 : decode cL_areOrders 62 = .ok (.iconst 0, 1) := by decide +kernel
theorem dL_areOrders_63 : decode cL_areOrders 63 = .ok (.istore 7, 2) := by decide +kernel
theorem dL_areOrders_65 : decode cL_areOrders 65 = .ok (.iload 7, 2) := by decide +kernel
theorem dL_areOrders_67 : decode cL_areOrders 67 = .ok (.iload_n 3, 1) := by decide +kernel
theorem dL_areOrders_68 : decode cL_areOrders 68 = .ok (.if_icmp .ge 91, 3) := by decide +kernel
theorem dL_areOrders_71 : decode cL_areOrders 71 = .ok (.iload_n 2, 1) := by decide +kernel
theorem dL_areOrders_72 : decode cL_areOrders 72 = .ok (.ifCond .eq 87, 3) := by decide +kernel
theorem dL_areOrders_75 : decode cL_areOrders 75 = .ok (.aload_n 0, 1) := by decide +kernel
theorem dL_areOrders_76 : decode cL_areOrders 76 = .ok (.bipush 13, 2) := by decide +kernel
theorem dL_areOrders_78 : decode cL_areOrders 78 = .ok (.iload 7, 2) := by decide +kernel
theorem dL_areOrders_80 : decode cL_areOrders 80 = .ok (.iconst 0, 1) := by decide +kernel
theorem dL_areOrders_81 : decode cL_areOrders 81 = .ok (.invokestatic 169, 3) := by decide +kernel
theorem dL_areOrders_84 : decode cL_areOrders 84 = .ok (.l2i, 1) := by decide +kernel
theorem dL_areOrders_85 : decode cL_areOrders 85 = .ok (.istore 8, 2) := by decide +kernel
theorem dL_areOrders_87 : decode cL_areOrders 87 = .ok (.aload_n 0, 1) := by decide +kernel
theorem dL_areOrders_88 : decode cL_areOrders 88 = .ok (.bipush 7, 2) := by decide +kernel
theorem dL_areOrders_90 : decode cL_areOrders 90 = .ok (.iload 8, 2) := by decide +kernel
theorem dL_areOrders_92 : decode cL_areOrders 92 = .ok (.iconst 0, 1) := by decide +kernel
theorem dL_areOrders_93 : decode cL_areOrders 93 = .ok (.invokestatic 169, 3) := by decide +kernel
theorem dL_areOrders_96 : decode cL_areOrders 96 = .ok (.aload_n 1, 1) := by decide +kernel
theorem dL_areOrders_97 : decode cL_areOrders 97 = .ok (.bipush 10, 2) := by decide +kernel
theorem dL_areOrders_99 : decode cL_areOrders 99 = .ok (.iconst 3, 1) := by decide +kernel
theorem dL_areOrders_100 : decode cL_areOrders 100 = .ok (.iload 8, 2) := by decide +kernel
theorem dL_areOrders_102 : decode cL_areOrders 102 = .ok (.imul, 1) := by decide +kernel
theorem dL_areOrders_103 : decode cL_areOrders 103 = .ok (.iadd, 1) := by decide +kernel
theorem dL_areOrders_104 : decode cL_areOrders 104 = .ok (.iaload, 1) := by decide +kernel
theorem dL_areOrders_105 : decode cL_areOrders 105 = .ok (.i2l, 1) := by decide +kernel
theorem dL_areOrders_106 : decode cL_areOrders 106 = .ok (.lmul, 1) := by decide +kernel
theorem dL_areOrders_107 : decode cL_areOrders 107 = .ok (.lstore 9, 2) := by decide +kernel
theorem dL_areOrders_109 : decode cL_areOrders 109 = .ok (.lload 9, 2) := by decide +kernel
theorem dL_areOrders_111 : decode cL_areOrders 111 = .ok (.lconst 0, 1) := by decide +kernel
theorem dL_areOrders_112 : decode cL_areOrders 112 = .ok (.lcmp, 1) := by decide +kernel
theorem dL_areOrders_113 : decode cL_areOrders 113 = .ok (.ifCond .le 30, 3) := by decide +kernel
theorem dL_areOrders_116 : decode cL_areOrders 116 = .ok (.lload 9, 2) := by decide +kernel
theorem dL_areOrders_118 : decode cL_areOrders 118 = .ok (.lload 4, 2) := by decide +kernel
theorem dL_areOrders_120 : decode cL_areOrders 120 = .ok (.lcmp, 1) := by decide +kernel
theorem dL_areOrders_121 : decode cL_areOrders 121 = .ok (.ifCond .lt 18, 3) := by decide +kernel
theorem dL_areOrders_124 : decode cL_areOrders 124 = .ok (.lload 9, 2) := by decide +kernel
theorem dL_areOrders_126 : decode cL_areOrders 126 = .ok (.lload 4, 2) := by decide +kernel
theorem dL_areOrders_128 : decode cL_areOrders 128 = .ok (.lcmp, 1) := by decide +kernel
theorem dL_areOrders_129 : decode cL_areOrders 129 = .ok (.ifCond .ne 14, 3) := by decide +kernel
theorem dL_areOrders_132 : decode cL_areOrders 132 = .ok (.iload 8, 2) := by decide +kernel
theorem dL_areOrders_134 : decode cL_areOrders 134 = .ok (.iload 6, 2) := by decide +kernel
theorem dL_areOrders_136 : decode cL_areOrders 136 = .ok (.if_icmp .le 7, 3) := by decide +kernel
theorem dL_areOrders_139 : decode cL_areOrders 139 = .ok (.iconst 1, 1) := by decide +kernel
theorem dL_areOrders_140 : decode cL_areOrders 140 = .ok (.goto 4, 3) := by decide +kernel
theorem dL_areOrders_143 : decode cL_areOrders 143 = .ok (.iconst 0, 1) := by decide +kernel
theorem dL_areOrders_144 : decode cL_areOrders 144 = .ok (.istore_n 2, 1) := by decide +kernel
theorem dL_areOrders_145 : decode cL_areOrders 145 = .ok (.lload 9, 2) := by decide +kernel
theorem dL_areOrders_147 : decode cL_areOrders 147 = .ok (.lstore 4, 2) := by decide +kernel
theorem dL_areOrders_149 : decode cL_areOrders 149 = .ok (.iload 8, 2) := by decide +kernel
theorem dL_areOrders_151 : decode cL_areOrders 151 = .ok (.istore 6, 2) := by decide +kernel
theorem dL_areOrders_153 : decode cL_areOrders 153 = .ok (.iinc 7 1, 3) := by decide +kernel
theorem dL_areOrders_156 : decode cL_areOrders 156 = .ok (.goto (-91), 3) := by decide +kernel
theorem dL_areOrders_159 : decode cL_areOrders 159 = .ok (.iload_n 2, 1) := by decide +kernel
theorem dL_areOrders_160 : decode cL_areOrders 160 = .ok (.ifCond .eq 37, 3) := by decide +kernel
theorem dL_areOrders_163 : decode cL_areOrders 163 = .ok (.aload_n 0, 1) := by decide +kernel
theorem dL_areOrders_164 : decode cL_areOrders 164 = .ok (.bipush 13, 2) := by decide +kernel
theorem dL_areOrders_166 : decode cL_areOrders 166 = .ok (.iload_n 3, 1) := by decide +kernel
theorem dL_areOrders_167 : decode cL_areOrders 167 = .ok (.iconst 0, 1) := by decide +kernel
theorem dL_areOrders_168 : decode cL_areOrders 168 = .ok (.invokestatic 169, 3) := by decide +kernel
theorem dL_areOrders_171 : decode cL_areOrders 171 = .ok (.ldc2_w 152, 3) := by decide +kernel
theorem dL_areOrders_174 : decode cL_areOrders 174 = .ok (.lcmp, 1) := by decide +kernel
theorem dL_areOrders_175 : decode cL_areOrders 175 = .ok (.ifCond .ne 22, 3) := by decide +kernel
theorem dL_areOrders_178 : decode cL_areOrders 178 = .ok (.aload_n 0, 1) := by decide +kernel
theorem dL_areOrders_179 : decode cL_areOrders 179 = .ok (.bipush 13, 2) := by decide +kernel
theorem dL_areOrders_181 : decode cL_areOrders 181 = .ok (.iconst (-1), 1) := by decide +kernel
theorem dL_areOrders_182 : decode cL_areOrders 182 = .ok (.iconst 0, 1) := by decide +kernel
theorem dL_areOrders_183 : decode cL_areOrders 183 = .ok (.invokestatic 169, 3) := by decide +kernel
theorem dL_areOrders_186 : decode cL_areOrders 186 = .ok (.ldc2_w 152, 3) := by decide +kernel
theorem dL_areOrders_189 : decode cL_areOrders 189 = .ok (.lcmp, 1) := by decide +kernel
theorem dL_areOrders_190 : decode cL_areOrders 190 = .ok (.ifCond .ne 7, 3) := by decide +kernel
theorem dL_areOrders_193 : decode cL_areOrders 193 = .ok (.iconst 1, 1) := by decide +kernel
theorem dL_areOrders_194 : decode cL_areOrders 194 = .ok (.goto 4, 3) := by decide +kernel
theorem dL_areOrders_197 : decode cL_areOrders 197 = .ok (.iconst 0, 1) := by decide +kernel
theorem dL_areOrders_198 : decode cL_areOrders 198 = .ok (.istore_n 2, 1) := by decide +kernel
theorem dL_areOrders_199 : decode cL_areOrders 199 = .ok (.iconst 0, 1) := by decide +kernel
theorem dL_areOrders_200 : decode cL_areOrders 200 = .ok (.istore 7, 2) := by decide +kernel
theorem dL_areOrders_202 : decode cL_areOrders 202 = .ok (.iload 7, 2) := by decide +kernel
theorem dL_areOrders_204 : decode cL_areOrders 204 = .ok (.aload_n 1, 1) := by decide +kernel
theorem dL_areOrders_205 : decode cL_areOrders 205 = .ok (.iconst 1, 1) := by decide +kernel
theorem dL_areOrders_206 : decode cL_areOrders 206 = .ok (.iaload, 1) := by decide +kernel
theorem dL_areOrders_207 : decode cL_areOrders 207 = .ok (.if_icmp .ge 106, 3) := by decide +kernel
theorem dL_areOrders_210 : decode cL_areOrders 210 = .ok (.iload_n 2, 1) := by decide +kernel
theorem dL_areOrders_211 : decode cL_areOrders 211 = .ok (.ifCond .eq 102, 3) := by decide +kernel
theorem dL_areOrders_214 : decode cL_areOrders 214 = .ok (.lconst 0, 1) := by decide +kernel
theorem dL_areOrders_215 : decode cL_areOrders 215 = .ok (.lstore 8, 2) := by decide +kernel
theorem dL_areOrders_217 : decode cL_areOrders 217 = .ok (.iconst 0, 1) := by decide +kernel
theorem dL_areOrders_218 : decode cL_areOrders 218 = .ok (.istore 10, 2) := by decide +kernel
theorem dL_areOrders_220 : decode cL_areOrders 220 = .ok (.iload 10, 2) := by decide +kernel
theorem dL_areOrders_222 : decode cL_areOrders 222 = .ok (.aload_n 1, 1) := by decide +kernel
theorem dL_areOrders_223 : decode cL_areOrders 223 = .ok (.iconst 0, 1) := by decide +kernel
theorem dL_areOrders_224 : decode cL_areOrders 224 = .ok (.iaload, 1) := by decide +kernel
theorem dL_areOrders_225 : decode cL_areOrders 225 = .ok (.if_icmp .ge 34, 3) := by decide +kernel
theorem dL_areOrders_228 : decode cL_areOrders 228 = .ok (.lload 8, 2) := by decide +kernel
theorem dL_areOrders_230 : decode cL_areOrders 230 = .ok (.aload_n 0, 1) := by decide +kernel
theorem dL_areOrders_231 : decode cL_areOrders 231 = .ok (.iconst 2, 1) := by decide +kernel
theorem dL_areOrders_232 : decode cL_areOrders 232 = .ok (.iload 7, 2) := by decide +kernel
theorem dL_areOrders_234 : decode cL_areOrders 234 = .ok (.iload 10, 2) := by decide +kernel
theorem dL_areOrders_236 : decode cL_areOrders 236 = .ok (.invokestatic 169, 3) := by decide +kernel
theorem dL_areOrders_239 : decode cL_areOrders 239 = .ok (.aload_n 1, 1) := by decide +kernel
theorem dL_areOrders_240 : decode cL_areOrders 240 = .ok (.bipush 10, 2) := by decide +kernel
theorem dL_areOrders_242 : decode cL_areOrders 242 = .ok (.iconst 3, 1) := by decide +kernel
theorem dL_areOrders_243 : decode cL_areOrders 243 = .ok (.iload 10, 2) := by decide +kernel
theorem dL_areOrders_245 : decode cL_areOrders 245 = .ok (.imul, 1) := by decide +kernel
theorem dL_areOrders_246 : decode cL_areOrders 246 = .ok (.iadd, 1) := by decide +kernel
theorem dL_areOrders_247 : decode cL_areOrders 247 = .ok (.iaload, 1) := by decide +kernel
theorem dL_areOrders_248 : decode cL_areOrders 248 = .ok (.i2l, 1) := by decide +kernel
theorem dL_areOrders_249 : decode cL_areOrders 249 = .ok (.lmul, 1) := by decide +kernel
theorem dL_areOrders_250 : decode cL_areOrders 250 = .ok (.ladd, 1) := by decide +kernel
theorem dL_areOrders_251 : decode cL_areOrders 251 = .ok (.lstore 8, 2) := by decide +kernel
theorem dL_areOrders_253 : decode cL_areOrders 253 = .ok (.iinc 10 1, 3) := by decide +kernel
theorem dL_areOrders_256 : decode cL_areOrders 256 = .ok (.goto (-36), 3) := by decide +kernel
theorem dL_areOrders_259 : decode cL_areOrders 259 = .ok (.aload_n 0, 1) := by decide +kernel
theorem dL_areOrders_260 : decode cL_areOrders 260 = .ok (.iconst 1, 1) := by decide +kernel
theorem dL_areOrders_261 : decode cL_areOrders 261 = .ok (.iload 7, 2) := by decide +kernel
theorem dL_areOrders_263 : decode cL_areOrders 263 = .ok (.iconst 0, 1) := by decide +kernel
theorem dL_areOrders_264 : decode cL_areOrders 264 = .ok (.invokestatic 169, 3) := by decide +kernel
theorem dL_areOrders_267 : decode cL_areOrders 267 = .ok (.lload 8, 2) := by decide +kernel
theorem dL_areOrders_269 : decode cL_areOrders 269 = .ok (.lcmp, 1) := by decide +kernel
theorem dL_areOrders_270 : decode cL_areOrders 270 = .ok (.ifCond .ne 35, 3) := by decide +kernel
theorem dL_areOrders_273 : decode cL_areOrders 273 = .ok (.aload_n 0, 1) := by decide +kernel
theorem dL_areOrders_274 : decode cL_areOrders 274 = .ok (.iconst 0, 1) := by decide +kernel
theorem dL_areOrders_275 : decode cL_areOrders 275 = .ok (.iload 7, 2) := by decide +kernel
theorem dL_areOrders_277 : decode cL_areOrders 277 = .ok (.iconst 0, 1) := by decide +kernel
theorem dL_areOrders_278 : decode cL_areOrders 278 = .ok (.invokestatic 169, 3) := by decide +kernel
theorem dL_areOrders_281 : decode cL_areOrders 281 = .ok (.lconst 1, 1) := by decide +kernel
theorem dL_areOrders_282 : decode cL_areOrders 282 = .ok (.lcmp, 1) := by decide +kernel
theorem dL_areOrders_283 : decode cL_areOrders 283 = .ok (.ifCond .lt 22, 3) := by decide +kernel
theorem dL_areOrders_286 : decode cL_areOrders 286 = .ok (.aload_n 0, 1) := by decide +kernel
theorem dL_areOrders_287 : decode cL_areOrders 287 = .ok (.iconst 0, 1) := by decide +kernel
theorem dL_areOrders_288 : decode cL_areOrders 288 = .ok (.iload 7, 2) := by decide +kernel
theorem dL_areOrders_290 : decode cL_areOrders 290 = .ok (.iconst 0, 1) := by decide +kernel
theorem dL_areOrders_291 : decode cL_areOrders 291 = .ok (.invokestatic 169, 3) := by decide +kernel
theorem dL_areOrders_294 : decode cL_areOrders 294 = .ok (.ldc2_w 202, 3) := by decide +kernel
theorem dL_areOrders_297 : decode cL_areOrders 297 = .ok (.lcmp, 1) := by decide +kernel
theorem dL_areOrders_298 : decode cL_areOrders 298 = .ok (.ifCond .gt 7, 3) := by decide +kernel
theorem dL_areOrders_301 : decode cL_areOrders 301 = .ok (.iconst 1, 1) := by decide +kernel
theorem dL_areOrders_302 : decode cL_areOrders 302 = .ok (.goto 4, 3) := by decide +kernel
theorem dL_areOrders_305 : decode cL_areOrders 305 = .ok (.iconst 0, 1) := by decide +kernel
theorem dL_areOrders_306 : decode cL_areOrders 306 = .ok (.istore_n 2, 1) := by decide +kernel
theorem dL_areOrders_307 : decode cL_areOrders 307 = .ok (.iinc 7 1, 3) := by decide +kernel
theorem dL_areOrders_310 : decode cL_areOrders 310 = .ok (.goto (-108), 3) := by decide +kernel
theorem dL_areOrders_313 : decode cL_areOrders 313 = .ok (.iload_n 2, 1) := by decide +kernel
theorem dL_areOrders_314 : decode cL_areOrders 314 = .ok (.ifCond .eq 39, 3) := by decide +kernel
theorem dL_areOrders_317 : decode cL_areOrders 317 = .ok (.aload_n 0, 1) := by decide +kernel
theorem dL_areOrders_318 : decode cL_areOrders 318 = .ok (.iconst 0, 1) := by decide +kernel
theorem dL_areOrders_319 : decode cL_areOrders 319 = .ok (.aload_n 1, 1) := by decide +kernel
theorem dL_areOrders_320 : decode cL_areOrders 320 = .ok (.iconst 1, 1) := by decide +kernel
theorem dL_areOrders_321 : decode cL_areOrders 321 = .ok (.iaload, 1) := by decide +kernel
theorem dL_areOrders_322 : decode cL_areOrders 322 = .ok (.iconst 0, 1) := by decide +kernel
theorem dL_areOrders_323 : decode cL_areOrders 323 = .ok (.invokestatic 169, 3) := by decide +kernel
theorem dL_areOrders_326 : decode cL_areOrders 326 = .ok (.ldc2_w 144, 3) := by decide +kernel
theorem dL_areOrders_329 : decode cL_areOrders 329 = .ok (.lcmp, 1) := by decide +kernel
theorem dL_areOrders_330 : decode cL_areOrders 330 = .ok (.ifCond .ne 23, 3) := by decide +kernel
theorem dL_areOrders_333 : decode cL_areOrders 333 = .ok (.aload_n 0, 1) := by decide +kernel
theorem dL_areOrders_334 : decode cL_areOrders 334 = .ok (.iconst 2, 1) := by decide +kernel
theorem dL_areOrders_335 : decode cL_areOrders 335 = .ok (.iconst 0, 1) := by decide +kernel
theorem dL_areOrders_336 : decode cL_areOrders 336 = .ok (.aload_n 1, 1) := by decide +kernel
theorem dL_areOrders_337 : decode cL_areOrders 337 = .ok (.iconst 0, 1) := by decide +kernel
theorem dL_areOrders_338 : decode cL_areOrders 338 = .ok (.iaload, 1) := by decide +kernel
theorem dL_areOrders_339 : decode cL_areOrders 339 = .ok (.invokestatic 169, 3) := by decide +kernel
theorem dL_areOrders_342 : decode cL_areOrders 342 = .ok (.ldc2_w 144, 3) := by decide +kernel
theorem dL_areOrders_345 : decode cL_areOrders 345 = .ok (.lcmp, 1) := by decide +kernel
theorem dL_areOrders_346 : decode cL_areOrders 346 = .ok (.ifCond .ne 7, 3) := by decide +kernel
theorem dL_areOrders_349 : decode cL_areOrders 349 = .ok (.iconst 1, 1) := by decide +kernel
theorem dL_areOrders_350 : decode cL_areOrders 350 = .ok (.goto 4, 3) := by decide +kernel
theorem dL_areOrders_353 : decode cL_areOrders 353 = .ok (.iconst 0, 1) := by decide +kernel
theorem dL_areOrders_354 : decode cL_areOrders 354 = .ok (.ireturn, 1) := by decide +kernel
