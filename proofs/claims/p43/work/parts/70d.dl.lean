theorem dL_areOrders_124 : decode cL_areOrders 124 = .ok (.lload 9, 2) := by decide +kernel
theorem dL_areOrders_126 : decode cL_areOrders 126 = .ok (.lload 4, 2) := by decide +kernel
theorem dL_areOrders_128 : decode cL_areOrders 128 = .ok (.lcmp, 1) := by decide +kernel
theorem dL_areOrders_129 : decode cL_areOrders 129 = .ok (.ifCond .ne 14, 3) := by decide +kernel
theorem dL_areOrders_132 : decode cL_areOrders 132 = .ok (.iload 8, 2) := by decide +kernel
theorem dL_areOrders_134 : decode cL_areOrders 134 = .ok (.iload 6, 2) := by decide +kernel
theorem dL_areOrders_136 : decode cL_areOrders 136 = .ok (.if_icmp .le 7, 3) := by decide +kernel
theorem dL_areOrders_139 : decode cL_areOrders 139 = .ok (.iconst 1, 1) := by decide +kernel
theorem dL_areOrders_140 : decode cL_areOrders 140 = .ok (.goto 4, 3) := by decide +kernel
theorem dL_areOrders_143 : decode cL_areOrders 143 = .ok (.iconst 0, 1) := by decide +kernel
theorem dL_areOrders_144 : decode cL_areOrders 144 = .ok (.istore_n 2, 1) := by decide +kernel
theorem dL_areOrders_145 : decode cL_areOrders 145 = .ok (.lload 9, 2) := by decide +kernel
theorem dL_areOrders_147 : decode cL_areOrders 147 = .ok (.lstore 4, 2) := by decide +kernel
theorem dL_areOrders_149 : decode cL_areOrders 149 = .ok (.iload 8, 2) := by decide +kernel
theorem dL_areOrders_151 : decode cL_areOrders 151 = .ok (.istore 6, 2) := by decide +kernel
theorem dL_areOrders_153 : decode cL_areOrders 153 = .ok (.iinc 7 1, 3) := by decide +kernel
theorem dL_areOrders_156 : decode cL_areOrders 156 = .ok (.goto (-91), 3) := by decide +kernel
theorem dL_areOrders_159 : decode cL_areOrders 159 = .ok (.iload_n 2, 1) := by decide +kernel
theorem dL_areOrders_160 : decode cL_areOrders 160 = .ok (.ifCond .eq 37, 3) := by decide +kernel
theorem dL_areOrders_163 : decode cL_areOrders 163 = .ok (.aload_n 0, 1) := by decide +kernel
theorem dL_areOrders_164 : decode cL_areOrders 164 = .ok (.bipush 13, 2) := by decide +kernel
theorem dL_areOrders_166 : decode cL_areOrders 166 = .ok (.iload_n 3, 1) := by decide +kernel
theorem dL_areOrders_167 : decode cL_areOrders 167 = .ok (.iconst 0, 1) := by decide +kernel
theorem dL_areOrders_168 : decode cL_areOrders 168 = .ok (.invokestatic 169, 3) := by decide +kernel
theorem dL_areOrders_171 : decode cL_areOrders 171 = .ok (.ldc2_w 152, 3) := by decide +kernel
theorem dL_areOrders_174 : decode cL_areOrders 174 = .ok (.lcmp, 1) := by decide +kernel
theorem dL_areOrders_175 : decode cL_areOrders 175 = .ok (.ifCond .ne 22, 3) := by decide +kernel
theorem dL_areOrders_178 : decode cL_areOrders 178 = .ok (.aload_n 0, 1) := by decide +kernel
theorem dL_areOrders_179 : decode cL_areOrders 179 = .ok (.bipush 13, 2) := by decide +kernel
theorem dL_areOrders_181 : decode cL_areOrders 181 = .ok (.iconst (-1), 1) := by decide +kernel
theorem dL_areOrders_182 : decode cL_areOrders 182 = .ok (.iconst 0, 1) := by decide +kernel
theorem dL_areOrders_183 : decode cL_areOrders 183 = .ok (.invokestatic 169, 3) := by decide +kernel
theorem dL_areOrders_186 : decode cL_areOrders 186 = .ok (.ldc2_w 152, 3) := by decide +kernel
theorem dL_areOrders_189 : decode cL_areOrders 189 = .ok (.lcmp, 1) := by decide +kernel
theorem dL_areOrders_190 : decode cL_areOrders 190 = .ok (.ifCond .ne 7, 3) := by decide +kernel
theorem dL_areOrders_193 : decode cL_areOrders 193 = .ok (.iconst 1, 1) := by decide +kernel
theorem dL_areOrders_194 : decode cL_areOrders 194 = .ok (.goto 4, 3) := by decide +kernel
theorem dL_areOrders_197 : decode cL_areOrders 197 = .ok (.iconst 0, 1) := by decide +kernel
theorem dL_areOrders_198 : decode cL_areOrders 198 = .ok (.istore_n 2, 1) := by decide +kernel
theorem dL_areOrders_199 : decode cL_areOrders 199 = .ok (.iconst 0, 1) := by decide +kernel
theorem dL_areOrders_200 : decode cL_areOrders 200 = .ok (.istore 7, 2) := by decide +kernel
theorem dL_areOrders_202 : decode cL_areOrders 202 = .ok (.iload 7, 2) := by decide +kernel
theorem dL_areOrders_204 : decode cL_areOrders 204 = .ok (.aload_n 1, 1) := by decide +kernel
theorem dL_areOrders_205 : decode cL_areOrders 205 = .ok (.iconst 1, 1) := by decide +kernel
theorem dL_areOrders_206 : decode cL_areOrders 206 = .ok (.iaload, 1) := by decide +kernel
theorem dL_areOrders_207 : decode cL_areOrders 207 = .ok (.if_icmp .ge 106, 3) := by decide +kernel
theorem dL_areOrders_210 : decode cL_areOrders 210 = .ok (.iload_n 2, 1) := by decide +kernel
theorem dL_areOrders_211 : decode cL_areOrders 211 = .ok (.ifCond .eq 102, 3) := by decide +kernel
theorem dL_areOrders_214 : decode cL_areOrders 214 = .ok (.lconst 0, 1) := by decide +kernel
theorem dL_areOrders_215 : decode cL_areOrders 215 = .ok (.lstore 8, 2) := by decide +kernel
theorem dL_areOrders_217 : decode cL_areOrders 217 = .ok (.iconst 0, 1) := by decide +kernel
theorem dL_areOrders_218 : decode cL_areOrders 218 = .ok (.istore 10, 2) := by decide +kernel
theorem dL_areOrders_220 : decode cL_areOrders 220 = .ok (.iload 10, 2) := by decide +kernel
theorem dL_areOrders_222 : decode cL_areOrders 222 = .ok (.aload_n 1, 1) := by decide +kernel
theorem dL_areOrders_223 : decode cL_areOrders 223 = .ok (.iconst 0, 1) := by decide +kernel
theorem dL_areOrders_224 : decode cL_areOrders 224 = .ok (.iaload, 1) := by decide +kernel
theorem dL_areOrders_225 : decode cL_areOrders 225 = .ok (.if_icmp .ge 34, 3) := by decide +kernel
theorem dL_areOrders_228 : decode cL_areOrders 228 = .ok (.lload 8, 2) := by decide +kernel
theorem dL_areOrders_230 : decode cL_areOrders 230 = .ok (.aload_n 0, 1) := by decide +kernel
theorem dL_areOrders_231 : decode cL_areOrders 231 = .ok (.iconst 2, 1) := by decide +kernel
theorem dL_areOrders_232 : decode cL_areOrders 232 = .ok (.iload 7, 2) := by decide +kernel
theorem dL_areOrders_234 : decode cL_areOrders 234 = .ok (.iload 10, 2) := by decide +kernel
theorem dL_areOrders_236 : decode cL_areOrders 236 = .ok (.invokestatic 169, 3) := by decide +kernel
theorem dL_areOrders_239 : decode cL_areOrders 239 = .ok (.aload_n 1, 1) := by decide +kernel
theorem dL_areOrders_240 : decode cL_areOrders 240 = .ok (.bipush 10, 2) := by decide +kernel
theorem dL_areOrders_242 : decode cL_areOrders 242 = .ok (.iconst 3, 1) := by decide +kernel
theorem dL_areOrders_243 : decode cL_areOrders 243 = .ok (.iload 10, 2) := by decide +kernel
theorem dL_areOrders_245 : decode cL_areOrders 245 = .ok (.imul, 1) := by decide +kernel
theorem dL_areOrders_246 : decode cL_areOrders 246 = .ok (.iadd, 1) := by decide +kernel
theorem dL_areOrders_247 : decode cL_areOrders 247 = .ok (.iaload, 1) := by decide +kernel
theorem dL_areOrders_248 : decode cL_areOrders 248 = .ok (.i2l, 1) := by decide +kernel
theorem dL_areOrders_249 : decode cL_areOrders 249 = .ok (.lmul, 1) := by decide +kernel
theorem dL_areOrders_250 : decode cL_areOrders 250 = .ok (.ladd, 1) := by decide +kernel
theorem dL_areOrders_251 : decode cL_areOrders 251 = .ok (.lstore 8, 2) := by decide +kernel
theorem dL_areOrders_253 : decode cL_areOrders 253 = .ok (.iinc 10 1, 3) := by decide +kernel
theorem dL_areOrders_256 : decode cL_areOrders 256 = .ok (.goto (-36), 3) := by decide +kernel
theorem dL_areOrders_259 : decode cL_areOrders 259 = .ok (.aload_n 0, 1) := by decide +kernel
theorem dL_areOrders_260 : decode cL_areOrders 260 = .ok (.iconst 1, 1) := by decide +kernel
theorem dL_areOrders_261 : decode cL_areOrders 261 = .ok (.iload 7, 2) := by decide +kernel
theorem dL_areOrders_263 : decode cL_areOrders 263 = .ok (.iconst 0, 1) := by decide +kernel
theorem dL_areOrders_264 : decode cL_areOrders 264 = .ok (.invokestatic 169, 3) := by decide +kernel
theorem dL_areOrders_267 : decode cL_areOrders 267 = .ok (.lload 8, 2) := by decide +kernel
theorem dL_areOrders_269 : decode cL_areOrders 269 = .ok (.lcmp, 1) := by decide +kernel
theorem dL_areOrders_270 : decode cL_areOrders 270 = .ok (.ifCond .ne 35, 3) := by decide +kernel
theorem dL_areOrders_273 : decode cL_areOrders 273 = .ok (.aload_n 0, 1) := by decide +kernel
theorem dL_areOrders_274 : decode cL_areOrders 274 = .ok (.iconst 0, 1) := by decide +kernel
theorem dL_areOrders_275 : decode cL_areOrders 275 = .ok (.iload 7, 2) := by decide +kernel
theorem dL_areOrders_277 : decode cL_areOrders 277 = .ok (.iconst 0, 1) := by decide +kernel
theorem dL_areOrders_278 : decode cL_areOrders 278 = .ok (.invokestatic 169, 3) := by decide +kernel
theorem dL_areOrders_281 : decode cL_areOrders 281 = .ok (.lconst 1, 1) := by decide +kernel
theorem dL_areOrders_282 : decode cL_areOrders 282 = .ok (.lcmp, 1) := by decide +kernel
theorem dL_areOrders_283 : decode cL_areOrders 283 = .ok (.ifCond .lt 22, 3) := by decide +kernel
theorem dL_areOrders_286 : decode cL_areOrders 286 = .ok (.aload_n 0, 1) := by decide +kernel
theorem dL_areOrders_287 : decode cL_areOrders 287 = .ok (.iconst 0, 1) := by decide +kernel
theorem dL_areOrders_288 : decode cL_areOrders 288 = .ok (.iload 7, 2) := by decide +kernel
theorem dL_areOrders_290 : decode cL_areOrders 290 = .ok (.iconst 0, 1) := by decide +kernel
theorem dL_areOrders_291 : decode cL_areOrders 291 = .ok (.invokestatic 169, 3) := by decide +kernel
theorem dL_areOrders_294 : decode cL_areOrders 294 = .ok (.ldc2_w 202, 3) := by decide +kernel
theorem dL_areOrders_297 : decode cL_areOrders 297 = .ok (.lcmp, 1) := by decide +kernel
theorem dL_areOrders_298 : decode cL_areOrders 298 = .ok (.ifCond .gt 7, 3) := by decide +kernel
theorem dL_areOrders_301 : decode cL_areOrders 301 = .ok (.iconst 1, 1) := by decide +kernel
theorem dL_areOrders_302 : decode cL_areOrders 302 = .ok (.goto 4, 3) := by decide +kernel
theorem dL_areOrders_305 : decode cL_areOrders 305 = .ok (.iconst 0, 1) := by decide +kernel
theorem dL_areOrders_306 : decode cL_areOrders 306 = .ok (.istore_n 2, 1) := by decide +kernel
theorem dL_areOrders_307 : decode cL_areOrders 307 = .ok (.iinc 7 1, 3) := by decide +kernel
theorem dL_areOrders_310 : decode cL_areOrders 310 = .ok (.goto (-108), 3) := by decide +kernel
theorem dL_areOrders_313 : decode cL_areOrders 313 = .ok (.iload_n 2, 1) := by decide +kernel
theorem dL_areOrders_314 : decode cL_areOrders 314 = .ok (.ifCond .eq 39, 3) := by decide +kernel
theorem dL_areOrders_317 : decode cL_areOrders 317 = .ok (.aload_n 0, 1) := by decide +kernel
theorem dL_areOrders_318 : decode cL_areOrders 318 = .ok (.iconst 0, 1) := by decide +kernel
theorem dL_areOrders_319 : decode cL_areOrders 319 = .ok (.aload_n 1, 1) := by decide +kernel
theorem dL_areOrders_320 : decode cL_areOrders 320 = .ok (.iconst 1, 1) := by decide +kernel
theorem dL_areOrders_321 : decode cL_areOrders 321 = .ok (.iaload, 1) := by decide +kernel
theorem dL_areOrders_322 : decode cL_areOrders 322 = .ok (.iconst 0, 1) := by decide +kernel
theorem dL_areOrders_323 : decode cL_areOrders 323 = .ok (.invokestatic 169, 3) := by decide +kernel
theorem dL_areOrders_326 : decode cL_areOrders 326 = .ok (.ldc2_w 144, 3) := by decide +kernel
theorem dL_areOrders_329 : decode cL_areOrders 329 = .ok (.lcmp, 1) := by decide +kernel
theorem dL_areOrders_330 : decode cL_areOrders 330 = .ok (.ifCond .ne 23, 3) := by decide +kernel
theorem dL_areOrders_333 : decode cL_areOrders 333 = .ok (.aload_n 0, 1) := by decide +kernel
theorem dL_areOrders_334 : decode cL_areOrders 334 = .ok (.iconst 2, 1) := by decide +kernel
theorem dL_areOrders_335 : decode cL_areOrders 335 = .ok (.iconst 0, 1) := by decide +kernel
theorem dL_areOrders_336 : decode cL_areOrders 336 = .ok (.aload_n 1, 1) := by decide +kernel
theorem dL_areOrders_337 : decode cL_areOrders 337 = .ok (.iconst 0, 1) := by decide +kernel
theorem dL_areOrders_338 : decode cL_areOrders 338 = .ok (.iaload, 1) := by decide +kernel
theorem dL_areOrders_339 : decode cL_areOrders 339 = .ok (.invokestatic 169, 3) := by decide +kernel
theorem dL_areOrders_342 : decode cL_areOrders 342 = .ok (.ldc2_w 144, 3) := by decide +kernel
theorem dL_areOrders_345 : decode cL_areOrders 345 = .ok (.lcmp, 1) := by decide +kernel
theorem dL_areOrders_346 : decode cL_areOrders 346 = .ok (.ifCond .ne 7, 3) := by decide +kernel
theorem dL_areOrders_349 : decode cL_areOrders 349 = .ok (.iconst 1, 1) := by decide +kernel
theorem dL_areOrders_350 : decode cL_areOrders 350 = .ok (.goto 4, 3) := by decide +kernel
theorem dL_areOrders_353 : decode cL_areOrders 353 = .ok (.iconst 0, 1) := by decide +kernel
theorem dL_areOrders_354 : decode cL_areOrders 354 = .ok (.ireturn, 1) := by decide +kernel
theorem dL_isTurned_0 : decode cL_isTurned 0 = .ok (.aload_n 0, 1) := by decide +kernel
theorem dL_isTurned_1 : decode cL_isTurned 1 = .ok (.invokevirtual 183, 3) := by decide +kernel
theorem dL_isTurned_4 : decode cL_isTurned 4 = .ok (.lstore 4, 2) := by decide +kernel
theorem dL_isTurned_6 : decode cL_isTurned 6 = .ok (.aload_n 0, 1) := by decide +kernel
theorem dL_isTurned_7 : decode cL_isTurned 7 = .ok (.iconst 5, 1) := by decide +kernel
theorem dL_isTurned_8 : decode cL_isTurned 8 = .ok (.iload_n 2, 1) := by decide +kernel
theorem dL_isTurned_9 : decode cL_isTurned 9 = .ok (.iconst 0, 1) := by decide +kernel
theorem dL_isTurned_10 : decode cL_isTurned 10 = .ok (.invokestatic 169, 3) := by decide +kernel
theorem dL_isTurned_13 : decode cL_isTurned 13 = .ok (.lstore 6, 2) := by decide +kernel
theorem dL_isTurned_15 : decode cL_isTurned 15 = .ok (.aload_n 0, 1) := by decide +kernel
theorem dL_isTurned_16 : decode cL_isTurned 16 = .ok (.bipush 14, 2) := by decide +kernel
theorem dL_isTurned_18 : decode cL_isTurned 18 = .ok (.iload_n 2, 1) := by decide +kernel
theorem dL_isTurned_19 : decode cL_isTurned 19 = .ok (.iconst 1, 1) := by decide +kernel
theorem dL_isTurned_20 : decode cL_isTurned 20 = .ok (.iload_n 3, 1) := by decide +kernel
theorem dL_isTurned_21 : decode cL_isTurned 21 = .ok (.isub, 1) := by decide +kernel
theorem dL_isTurned_22 : decode cL_isTurned 22 = .ok (.iconst 0, 1) := by decide +kernel
theorem dL_isTurned_23 : decode cL_isTurned 23 = .ok (.iconst 0, 1) := by decide +kernel
theorem dL_isTurned_24 : decode cL_isTurned 24 = .ok (.invokestatic 158, 3) := by decide +kernel
theorem dL_isTurned_27 : decode cL_isTurned 27 = .ok (.istore 8, 2) := by decide +kernel
theorem dL_isTurned_29 : decode cL_isTurned 29 = .ok (.iload 8, 2) := by decide +kernel
theorem dL_isTurned_31 : decode cL_isTurned 31 = .ok (.sipush (-2004), 3) := by decide +kernel
theorem dL_isTurned_34 : decode cL_isTurned 34 = .ok (.if_icmp .ne 42, 3) := by decide +kernel
theorem dL_isTurned_37 : decode cL_isTurned 37 = .ok (.lload 6, 2) := by decide +kernel
theorem dL_isTurned_39 : decode cL_isTurned 39 = .ok (.ldc2_w 148, 3) := by decide +kernel
theorem dL_isTurned_42 : decode cL_isTurned 42 = .ok (.lcmp, 1) := by decide +kernel
theorem dL_isTurned_43 : decode cL_isTurned 43 = .ok (.ifCond .ne 31, 3) := by decide +kernel
theorem dL_isTurned_46 : decode cL_isTurned 46 = .ok (.aload_n 0, 1) := by decide +kernel
theorem dL_isTurned_47 : decode cL_isTurned 47 = .ok (.invokevirtual 183, 3) := by decide +kernel
theorem dL_isTurned_50 : decode cL_isTurned 50 = .ok (.lload 4, 2) := by decide +kernel
theorem dL_isTurned_52 : decode cL_isTurned 52 = .ok (.lcmp, 1) := by decide +kernel
theorem dL_isTurned_53 : decode cL_isTurned 53 = .ok (.ifCond .ne 21, 3) := by decide +kernel
theorem dL_isTurned_56 : decode cL_isTurned 56 = .ok (.aload_n 0, 1) := by decide +kernel
theorem dL_isTurned_57 : decode cL_isTurned 57 = .ok (.bipush 14, 2) := by decide +kernel
theorem dL_isTurned_59 : decode cL_isTurned 59 = .ok (.iload_n 2, 1) := by decide +kernel
theorem dL_isTurned_60 : decode cL_isTurned 60 = .ok (.iload_n 3, 1) := by decide +kernel
theorem dL_isTurned_61 : decode cL_isTurned 61 = .ok (.iconst 0, 1) := by decide +kernel
theorem dL_isTurned_62 : decode cL_isTurned 62 = .ok (.iconst 0, 1) := by decide +kernel
theorem dL_isTurned_63 : decode cL_isTurned 63 = .ok (.invokestatic 158, 3) := by decide +kernel
theorem dL_isTurned_66 : decode cL_isTurned 66 = .ok (.iload_n 3, 1) := by decide +kernel
theorem dL_isTurned_67 : decode cL_isTurned 67 = .ok (.if_icmp .ne 7, 3) := by decide +kernel
theorem dL_isTurned_70 : decode cL_isTurned 70 = .ok (.iconst 1, 1) := by decide +kernel
theorem dL_isTurned_71 : decode cL_isTurned 71 = .ok (.goto 4, 3) := by decide +kernel
theorem dL_isTurned_74 : decode cL_isTurned 74 = .ok (.iconst 0, 1) := by decide +kernel
theorem dL_isTurned_75 : decode cL_isTurned 75 = .ok (.ireturn, 1) := by decide +kernel
theorem dL_isTurned_76 : decode cL_isTurned 76 = .ok (.iload 8, 2) := by decide +kernel
theorem dL_isTurned_78 : decode cL_isTurned 78 = .ok (.iload_n 3, 1) := by decide +kernel
theorem dL_isTurned_79 : decode cL_isTurned 79 = .ok (.if_icmp .ne 28, 3) := by decide +kernel
theorem dL_isTurned_82 : decode cL_isTurned 82 = .ok (.aload_n 0, 1) := by decide +kernel
theorem dL_isTurned_83 : decode cL_isTurned 83 = .ok (.invokevirtual 183, 3) := by decide +kernel
theorem dL_isTurned_86 : decode cL_isTurned 86 = .ok (.lload 4, 2) := by decide +kernel
theorem dL_isTurned_88 : decode cL_isTurned 88 = .ok (.lsub, 1) := by decide +kernel
theorem dL_isTurned_89 : decode cL_isTurned 89 = .ok (.lload 6, 2) := by decide +kernel
theorem dL_isTurned_91 : decode cL_isTurned 91 = .ok (.lcmp, 1) := by decide +kernel
theorem dL_isTurned_92 : decode cL_isTurned 92 = .ok (.ifCond .ne 15, 3) := by decide +kernel
theorem dL_isTurned_95 : decode cL_isTurned 95 = .ok (.aload_n 0, 1) := by decide +kernel
theorem dL_isTurned_96 : decode cL_isTurned 96 = .ok (.aload_n 1, 1) := by decide +kernel
theorem dL_isTurned_97 : decode cL_isTurned 97 = .ok (.invokestatic 204, 3) := by decide +kernel
theorem dL_isTurned_100 : decode cL_isTurned 100 = .ok (.ifCond .eq 7, 3) := by decide +kernel
theorem dL_isTurned_103 : decode cL_isTurned 103 = .ok (.iconst 1, 1) := by decide +kernel
theorem dL_isTurned_104 : decode cL_isTurned 104 = .ok (.goto 4, 3) := by decide +kernel
theorem dL_isTurned_107 : decode cL_isTurned 107 = .ok (.iconst 0, 1) := by decide +kernel
theorem dL_isTurned_108 : decode cL_isTurned 108 = .ok (.istore 9, 2) := by decide +kernel
theorem dL_isTurned_110 : decode cL_isTurned 110 = .ok (.iload 9, 2) := by decide +kernel
theorem dL_isTurned_112 : decode cL_isTurned 112 = .ok (.ifCond .eq 47, 3) := by decide +kernel
theorem dL_isTurned_115 : decode cL_isTurned 115 = .ok (.aload_n 0, 1) := by decide +kernel
theorem dL_isTurned_116 : decode cL_isTurned 116 = .ok (.iconst 5, 1) := by decide +kernel
theorem dL_isTurned_117 : decode cL_isTurned 117 = .ok (.iload_n 2, 1) := by decide +kernel
theorem dL_isTurned_118 : decode cL_isTurned 118 = .ok (.iconst 0, 1) := by decide +kernel
theorem dL_isTurned_119 : decode cL_isTurned 119 = .ok (.invokestatic 169, 3) := by decide +kernel
theorem dL_isTurned_122 : decode cL_isTurned 122 = .ok (.lload 6, 2) := by decide +kernel
theorem dL_isTurned_124 : decode cL_isTurned 124 = .ok (.lneg, 1) := by decide +kernel
theorem dL_isTurned_125 : decode cL_isTurned 125 = .ok (.lcmp, 1) := by decide +kernel
theorem dL_isTurned_126 : decode cL_isTurned 126 = .ok (.ifCond .ne 33, 3) := by decide +kernel
theorem dL_isTurned_129 : decode cL_isTurned 129 = .ok (.aload_n 0, 1) := by decide +kernel
theorem dL_isTurned_130 : decode cL_isTurned 130 = .ok (.bipush 14, 2) := by decide +kernel
theorem dL_isTurned_132 : decode cL_isTurned 132 = .ok (.iload_n 2, 1) := by decide +kernel
theorem dL_isTurned_133 : decode cL_isTurned 133 = .ok (.iload_n 3, 1) := by decide +kernel
theorem dL_isTurned_134 : decode cL_isTurned 134 = .ok (.iconst 0, 1) := by decide +kernel
theorem dL_isTurned_135 : decode cL_isTurned 135 = .ok (.iconst 0, 1) := by decide +kernel
theorem dL_isTurned_136 : decode cL_isTurned 136 = .ok (.invokestatic 158, 3) := by decide +kernel
theorem dL_isTurned_139 : decode cL_isTurned 139 = .ok (.iconst 1, 1) := by decide +kernel
theorem dL_isTurned_140 : decode cL_isTurned 140 = .ok (.iload_n 3, 1) := by decide +kernel
theorem dL_isTurned_141 : decode cL_isTurned 141 = .ok (.isub, 1) := by decide +kernel
theorem dL_isTurned_142 : decode cL_isTurned 142 = .ok (.if_icmp .ne 17, 3) := by decide +kernel
theorem dL_isTurned_145 : decode cL_isTurned 145 = .ok (.aload_n 0, 1) := by decide +kernel
theorem dL_isTurned_146 : decode cL_isTurned 146 = .ok (.invokevirtual 183, 3) := by decide +kernel
theorem dL_isTurned_149 : decode cL_isTurned 149 = .ok (.lload 4, 2) := by decide +kernel
theorem dL_isTurned_151 : decode cL_isTurned 151 = .ok (.lcmp, 1) := by decide +kernel
theorem dL_isTurned_152 : decode cL_isTurned 152 = .ok (.ifCond .ne 7, 3) := by decide +kernel
theorem dL_isTurned_155 : decode cL_isTurned 155 = .ok (.iconst 1, 1) := by decide +kernel
theorem dL_isTurned_156 : decode cL_isTurned 156 = .ok (.goto 4, 3) := by decide +kernel
theorem dL_isTurned_159 : decode cL_isTurned 159 = .ok (.iconst 0, 1) := by decide +kernel
theorem dL_isTurned_160 : decode cL_isTurned 160 = .ok (.ireturn, 1) := by decide +kernel
theorem dL_isCheapest_0 : decode cL_isCheapest 0 = .ok (.aload_n 0, 1) := by decide +kernel
theorem dL_isCheapest_1 : decode cL_isCheapest 1 = .ok (.invokevirtual 208, 3) := by decide +kernel
theorem dL_isCheapest_4 : decode cL_isCheapest 4 = .ok (.istore_n 2, 1) := by decide +kernel
theorem dL_isCheapest_5 : decode cL_isCheapest 5 = .ok (.iload_n 2, 1) := by decide +kernel
theorem dL_isCheapest_6 : decode cL_isCheapest 6 = .ok (.ifCond .lt 16, 3) := by decide +kernel
theorem dL_isCheapest_9 : decode cL_isCheapest 9 = .ok (.iload_n 2, 1) := by decide +kernel
theorem dL_isCheapest_10 : decode cL_isCheapest 10 = .ok (.iconst 1, 1) := by decide +kernel
theorem dL_isCheapest_11 : decode cL_isCheapest 11 = .ok (.aload_n 1, 1) := by decide +kernel
theorem dL_isCheapest_12 : decode cL_isCheapest 12 = .ok (.iconst 3, 1) := by decide +kernel
theorem dL_isCheapest_13 : decode cL_isCheapest 13 = .ok (.iaload, 1) := by decide +kernel
theorem dL_isCheapest_14 : decode cL_isCheapest 14 = .ok (.ishl, 1) := by decide +kernel
theorem dL_isCheapest_15 : decode cL_isCheapest 15 = .ok (.if_icmp .ge 7, 3) := by decide +kernel
theorem dL_isCheapest_18 : decode cL_isCheapest 18 = .ok (.iconst 1, 1) := by decide +kernel
theorem dL_isCheapest_19 : decode cL_isCheapest 19 = .ok (.goto 4, 3) := by decide +kernel
theorem dL_isCheapest_22 : decode cL_isCheapest 22 = .ok (.iconst 0, 1) := by decide +kernel
theorem dL_isCheapest_23 : decode cL_isCheapest 23 = .ok (.istore_n 3, 1) := by decide +kernel
theorem dL_isCheapest_24 : decode cL_isCheapest 24 = .ok (.ldc2_w 200, 3) := by decide +kernel
theorem dL_isCheapest_27 : decode cL_isCheapest 27 = .ok (.lstore 4, 2) := by decide +kernel
theorem dL_isCheapest_29 : decode cL_isCheapest 29 = .ok (.iconst (-1), 1) := by decide +kernel
theorem dL_isCheapest_30 : decode cL_isCheapest 30 = .ok (.istore 6, 2) := by decide +kernel
theorem dL_isCheapest_32 : decode cL_isCheapest 32 = .ok (.iconst 0, 1) := by decide +kernel
theorem dL_isCheapest_33 : decode cL_isCheapest 33 = .ok (.istore 7, 2) := by decide +kernel
theorem dL_isCheapest_35 : decode cL_isCheapest 35 = .ok (.iconst 0, 1) := by decide +kernel
theorem dL_isCheapest_36 : decode cL_isCheapest 36 = .ok (.istore 8, 2) := by decide +kernel
theorem dL_isCheapest_38 : decode cL_isCheapest 38 = .ok (.iload 8, 2) := by decide +kernel
theorem dL_isCheapest_40 : decode cL_isCheapest 40 = .ok (.iconst 1, 1) := by decide +kernel
theorem dL_isCheapest_41 : decode cL_isCheapest 41 = .ok (.aload_n 1, 1) := by decide +kernel
theorem dL_isCheapest_42 : decode cL_isCheapest 42 = .ok (.iconst 3, 1) := by decide +kernel
theorem dL_isCheapest_43 : decode cL_isCheapest 43 = .ok (.iaload, 1) := by decide +kernel
theorem dL_isCheapest_44 : decode cL_isCheapest 44 = .ok (.ishl, 1) := by decide +kernel
theorem dL_isCheapest_45 : decode cL_isCheapest 45 = .ok (.if_icmp .ge 127, 3) := by decide +kernel
theorem dL_isCheapest_48 : decode cL_isCheapest 48 = .ok (.iconst 1, 1) := by decide +kernel
theorem dL_isCheapest_49 : decode cL_isCheapest 49 = .ok (.istore 9, 2) := by decide +kernel
theorem dL_isCheapest_51 : decode cL_isCheapest 51 = .ok (.iconst 0, 1) := by decide +kernel
theorem dL_isCheapest_52 : decode cL_isCheapest 52 = .ok (.istore 10, 2) := by decide +kernel
theorem dL_isCheapest_54 : decode cL_isCheapest 54 = .ok (.iload 10, 2) := by decide +kernel
theorem dL_isCheapest_56 : decode cL_isCheapest 56 = .ok (.aload_n 1, 1) := by decide +kernel
theorem dL_isCheapest_57 : decode cL_isCheapest 57 = .ok (.iconst 3, 1) := by decide +kernel
theorem dL_isCheapest_58 : decode cL_isCheapest 58 = .ok (.iaload, 1) := by decide +kernel
theorem dL_isCheapest_59 : decode cL_isCheapest 59 = .ok (.if_icmp .ge 41, 3) := by decide +kernel
theorem dL_isCheapest_62 : decode cL_isCheapest 62 = .ok (.aload_n 0, 1) := by decide +kernel
theorem dL_isCheapest_63 : decode cL_isCheapest 63 = .ok (.bipush 14, 2) := by decide +kernel
theorem dL_isCheapest_65 : decode cL_isCheapest 65 = .ok (.iload 10, 2) := by decide +kernel
theorem dL_isCheapest_67 : decode cL_isCheapest 67 = .ok (.iload 8, 2) := by decide +kernel
theorem dL_isCheapest_69 : decode cL_isCheapest 69 = .ok (.iload 10, 2) := by decide +kernel
theorem dL_isCheapest_71 : decode cL_isCheapest 71 = .ok (.ishr, 1) := by decide +kernel
theorem dL_isCheapest_72 : decode cL_isCheapest 72 = .ok (.iconst 1, 1) := by decide +kernel
theorem dL_isCheapest_73 : decode cL_isCheapest 73 = .ok (.iand, 1) := by decide +kernel
theorem dL_isCheapest_74 : decode cL_isCheapest 74 = .ok (.iconst 0, 1) := by decide +kernel
theorem dL_isCheapest_75 : decode cL_isCheapest 75 = .ok (.iconst 0, 1) := by decide +kernel
theorem dL_isCheapest_76 : decode cL_isCheapest 76 = .ok (.invokestatic 158, 3) := by decide +kernel
theorem dL_isCheapest_79 : decode cL_isCheapest 79 = .ok (.ifCond .lt 12, 3) := by decide +kernel
theorem dL_isCheapest_82 : decode cL_isCheapest 82 = .ok (.iload 9, 2) := by decide +kernel
theorem dL_isCheapest_84 : decode cL_isCheapest 84 = .ok (.ifCond .eq 7, 3) := by decide +kernel
theorem dL_isCheapest_87 : decode cL_isCheapest 87 = .ok (.iconst 1, 1) := by decide +kernel
theorem dL_isCheapest_88 : decode cL_isCheapest 88 = .ok (.goto 4, 3) := by decide +kernel
theorem dL_isCheapest_91 : decode cL_isCheapest 91 = .ok (.iconst 0, 1) := by decide +kernel
theorem dL_isCheapest_92 : decode cL_isCheapest 92 = .ok (.istore 9, 2) := by decide +kernel
theorem dL_isCheapest_94 : decode cL_isCheapest 94 = .ok (.iinc 10 1, 3) := by decide +kernel
theorem dL_isCheapest_97 : decode cL_isCheapest 97 = .ok (.goto (-43), 3) := by decide +kernel
theorem dL_isCheapest_100 : decode cL_isCheapest 100 = .ok (.iload 9, 2) := by decide +kernel
theorem dL_isCheapest_102 : decode cL_isCheapest 102 = .ok (.ifCond .eq 23, 3) := by decide +kernel
theorem dL_isCheapest_105 : decode cL_isCheapest 105 = .ok (.aload_n 0, 1) := by decide +kernel
theorem dL_isCheapest_106 : decode cL_isCheapest 106 = .ok (.invokevirtual 183, 3) := by decide +kernel
theorem dL_isCheapest_109 : decode cL_isCheapest 109 = .ok (.lload 4, 2) := by decide +kernel
theorem dL_isCheapest_111 : decode cL_isCheapest 111 = .ok (.lcmp, 1) := by decide +kernel
theorem dL_isCheapest_112 : decode cL_isCheapest 112 = .ok (.ifCond .ge 13, 3) := by decide +kernel
theorem dL_isCheapest_115 : decode cL_isCheapest 115 = .ok (.aload_n 0, 1) := by decide +kernel
theorem dL_isCheapest_116 : decode cL_isCheapest 116 = .ok (.invokevirtual 183, 3) := by decide +kernel
theorem dL_isCheapest_119 : decode cL_isCheapest 119 = .ok (.lstore 4, 2) := by decide +kernel
theorem dL_isCheapest_121 : decode cL_isCheapest 121 = .ok (.iload 8, 2) := by decide +kernel
theorem dL_isCheapest_123 : decode cL_isCheapest 123 = .ok (.istore 6, 2) := by decide +kernel
theorem dL_isCheapest_125 : decode cL_isCheapest 125 = .ok (.iload 7, 2) := by decide +kernel
theorem dL_isCheapest_127 : decode cL_isCheapest 127 = .ok (.ifCond .ne 14, 3) := by decide +kernel
theorem dL_isCheapest_130 : decode cL_isCheapest 130 = .ok (.iload 9, 2) := by decide +kernel
theorem dL_isCheapest_132 : decode cL_isCheapest 132 = .ok (.ifCond .eq 13, 3) := by decide +kernel
theorem dL_isCheapest_135 : decode cL_isCheapest 135 = .ok (.iload 8, 2) := by decide +kernel
theorem dL_isCheapest_137 : decode cL_isCheapest 137 = .ok (.iload_n 2, 1) := by decide +kernel
theorem dL_isCheapest_138 : decode cL_isCheapest 138 = .ok (.if_icmp .ne 7, 3) := by decide +kernel
theorem dL_isCheapest_141 : decode cL_isCheapest 141 = .ok (.iconst 1, 1) := by decide +kernel
theorem dL_isCheapest_142 : decode cL_isCheapest 142 = .ok (.goto 4, 3) := by decide +kernel
theorem dL_isCheapest_145 : decode cL_isCheapest 145 = .ok (.iconst 0, 1) := by decide +kernel
theorem dL_isCheapest_146 : decode cL_isCheapest 146 = .ok (.istore 7, 2) := by decide +kernel
theorem dL_isCheapest_148 : decode cL_isCheapest 148 = .ok (.iload_n 3, 1) := by decide +kernel
theorem dL_isCheapest_149 : decode cL_isCheapest 149 = .ok (.ifCond .eq 15, 3) := by decide +kernel
theorem dL_isCheapest_152 : decode cL_isCheapest 152 = .ok (.aload_n 0, 1) := by decide +kernel
theorem dL_isCheapest_153 : decode cL_isCheapest 153 = .ok (.invokevirtual 208, 3) := by decide +kernel
theorem dL_isCheapest_156 : decode cL_isCheapest 156 = .ok (.iload_n 2, 1) := by decide +kernel
theorem dL_isCheapest_157 : decode cL_isCheapest 157 = .ok (.if_icmp .ne 7, 3) := by decide +kernel
theorem dL_isCheapest_160 : decode cL_isCheapest 160 = .ok (.iconst 1, 1) := by decide +kernel
theorem dL_isCheapest_161 : decode cL_isCheapest 161 = .ok (.goto 4, 3) := by decide +kernel
theorem dL_isCheapest_164 : decode cL_isCheapest 164 = .ok (.iconst 0, 1) := by decide +kernel
theorem dL_isCheapest_165 : decode cL_isCheapest 165 = .ok (.istore_n 3, 1) := by decide +kernel
theorem dL_isCheapest_166 : decode cL_isCheapest 166 = .ok (.iinc 8 1, 3) := by decide +kernel
theorem dL_isCheapest_169 : decode cL_isCheapest 169 = .ok (.goto (-131), 3) := by decide +kernel
theorem dL_isCheapest_172 : decode cL_isCheapest 172 = .ok (.iload_n 3, 1) := by decide +kernel
theorem dL_isCheapest_173 : decode cL_isCheapest 173 = .ok (.ifCond .eq 18, 3) := by decide +kernel
theorem dL_isCheapest_176 : decode cL_isCheapest 176 = .ok (.iload 7, 2) := by decide +kernel
theorem dL_isCheapest_178 : decode cL_isCheapest 178 = .ok (.ifCond .eq 9, 3) := by decide +kernel
theorem dL_isCheapest_181 : decode cL_isCheapest 181 = .ok (.iload 6, 2) := by decide +kernel
theorem dL_isCheapest_183 : decode cL_isCheapest 183 = .ok (.iload_n 2, 1) := by decide +kernel
theorem dL_isCheapest_184 : decode cL_isCheapest 184 = .ok (.if_icmp .ne 7, 3) := by decide +kernel
theorem dL_isCheapest_187 : decode cL_isCheapest 187 = .ok (.iconst 1, 1) := by decide +kernel
theorem dL_isCheapest_188 : decode cL_isCheapest 188 = .ok (.goto 4, 3) := by decide +kernel
theorem dL_isCheapest_191 : decode cL_isCheapest 191 = .ok (.iconst 0, 1) := by decide +kernel
theorem dL_isCheapest_192 : decode cL_isCheapest 192 = .ok (.ireturn, 1) := by decide +kernel
theorem dL_law_0 : decode cL_law 0 = .ok (.new 16, 3) := by decide +kernel
theorem dL_law_3 : decode cL_law 3 = .ok (.dup, 1) := by decide +kernel
theorem dL_law_4 : decode cL_law 4 = .ok (.invokespecial 211, 3) := by decide +kernel
theorem dL_law_7 : decode cL_law 7 = .ok (.astore_n 1, 1) := by decide +kernel
theorem dL_law_8 : decode cL_law 8 = .ok (.bipush 50, 2) := by decide +kernel
theorem dL_law_10 : decode cL_law 10 = .ok (.newarray .int, 2) := by decide +kernel
theorem dL_law_12 : decode cL_law 12 = .ok (.astore_n 2, 1) := by decide +kernel
theorem dL_law_13 : decode cL_law 13 = .ok (.aload_n 1, 1) := by decide +kernel
theorem dL_law_14 : decode cL_law 14 = .ok (.aload_n 2, 1) := by decide +kernel
theorem dL_law_15 : decode cL_law 15 = .ok (.invokestatic 204, 3) := by decide +kernel
theorem dL_law_18 : decode cL_law 18 = .ok (.ifCond .eq 22, 3) := by decide +kernel
theorem dL_law_21 : decode cL_law 21 = .ok (.aload_n 1, 1) := by decide +kernel
theorem dL_law_22 : decode cL_law 22 = .ok (.aload_n 2, 1) := by decide +kernel
theorem dL_law_23 : decode cL_law 23 = .ok (.invokestatic 212, 3) := by decide +kernel
theorem dL_law_26 : decode cL_law 26 = .ok (.ifCond .eq 14, 3) := by decide +kernel
theorem dL_law_29 : decode cL_law 29 = .ok (.aload_n 1, 1) := by decide +kernel
theorem dL_law_30 : decode cL_law 30 = .ok (.invokevirtual 208, 3) := by decide +kernel
theorem dL_law_33 : decode cL_law 33 = .ok (.ifCond .ne 7, 3) := by decide +kernel
theorem dL_law_36 : decode cL_law 36 = .ok (.iconst 1, 1) := by decide +kernel
theorem dL_law_37 : decode cL_law 37 = .ok (.goto 4, 3) := by decide +kernel
theorem dL_law_40 : decode cL_law 40 = .ok (.iconst 0, 1) := by decide +kernel
theorem dL_law_41 : decode cL_law 41 = .ok (.istore_n 3, 1) := by decide +kernel
theorem dL_law_42 : decode cL_law 42 = .ok (.aload_n 1, 1) := by decide +kernel
theorem dL_law_43 : decode cL_law 43 = .ok (.aload_n 2, 1) := by decide +kernel
theorem dL_law_44 : decode cL_law 44 = .ok (.aload_n 0, 1) := by decide +kernel
theorem dL_law_45 : decode cL_law 45 = .ok (.invokestatic 215, 3) := by decide +kernel
theorem dL_law_48 : decode cL_law 48 = .ok (.istore 4, 2) := by decide +kernel
theorem dL_law_50 : decode cL_law 50 = .ok (.iload_n 3, 1) := by decide +kernel
theorem dL_law_51 : decode cL_law 51 = .ok (.ifCond .eq 37, 3) := by decide +kernel
theorem dL_law_54 : decode cL_law 54 = .ok (.iload 4, 2) := by decide +kernel
theorem dL_law_56 : decode cL_law 56 = .ok (.ldc 219, 2) := by decide +kernel
theorem dL_law_58 : decode cL_law 58 = .ok (.if_icmp .le 30, 3) := by decide +kernel
theorem dL_law_61 : decode cL_law 61 = .ok (.aload_n 1, 1) := by decide +kernel
theorem dL_law_62 : decode cL_law 62 = .ok (.aload_n 2, 1) := by decide +kernel
theorem dL_law_63 : decode cL_law 63 = .ok (.invokestatic 204, 3) := by decide +kernel
theorem dL_law_66 : decode cL_law 66 = .ok (.ifCond .eq 22, 3) := by decide +kernel
theorem dL_law_69 : decode cL_law 69 = .ok (.aload_n 1, 1) := by decide +kernel
theorem dL_law_70 : decode cL_law 70 = .ok (.aload_n 2, 1) := by decide +kernel
theorem dL_law_71 : decode cL_law 71 = .ok (.invokestatic 212, 3) := by decide +kernel
theorem dL_law_74 : decode cL_law 74 = .ok (.ifCond .eq 14, 3) := by decide +kernel
theorem dL_law_77 : decode cL_law 77 = .ok (.aload_n 1, 1) := by decide +kernel
theorem dL_law_78 : decode cL_law 78 = .ok (.invokevirtual 220, 3) := by decide +kernel
theorem dL_law_81 : decode cL_law 81 = .ok (.ifCond .eq 7, 3) := by decide +kernel
theorem dL_law_84 : decode cL_law 84 = .ok (.iconst 1, 1) := by decide +kernel
theorem dL_law_85 : decode cL_law 85 = .ok (.goto 4, 3) := by decide +kernel
theorem dL_law_88 : decode cL_law 88 = .ok (.iconst 0, 1) := by decide +kernel
theorem dL_law_89 : decode cL_law 89 = .ok (.istore_n 3, 1) := by decide +kernel
theorem dL_law_90 : decode cL_law 90 = .ok (.iconst 0, 1) := by decide +kernel
theorem dL_law_91 : decode cL_law 91 = .ok (.istore 5, 2) := by decide +kernel
theorem dL_law_93 : decode cL_law 93 = .ok (.iload 5, 2) := by decide +kernel
theorem dL_law_95 : decode cL_law 95 = .ok (.aload_n 2, 1) := by decide +kernel
theorem dL_law_96 : decode cL_law 96 = .ok (.iconst 3, 1) := by decide +kernel
theorem dL_law_97 : decode cL_law 97 = .ok (.iaload, 1) := by decide +kernel
theorem dL_law_98 : decode cL_law 98 = .ok (.if_icmp .ge 22, 3) := by decide +kernel
theorem dL_law_101 : decode cL_law 101 = .ok (.iload_n 3, 1) := by decide +kernel
theorem dL_law_102 : decode cL_law 102 = .ok (.ifCond .eq 18, 3) := by decide +kernel
theorem dL_law_105 : decode cL_law 105 = .ok (.aload_n 1, 1) := by decide +kernel
theorem dL_law_106 : decode cL_law 106 = .ok (.aload_n 2, 1) := by decide +kernel
theorem dL_law_107 : decode cL_law 107 = .ok (.iload 5, 2) := by decide +kernel
theorem dL_law_109 : decode cL_law 109 = .ok (.iconst 0, 1) := by decide +kernel
theorem dL_law_110 : decode cL_law 110 = .ok (.invokestatic 224, 3) := by decide +kernel
theorem dL_law_113 : decode cL_law 113 = .ok (.istore_n 3, 1) := by decide +kernel
theorem dL_law_114 : decode cL_law 114 = .ok (.iinc 5 1, 3) := by decide +kernel
theorem dL_law_117 : decode cL_law 117 = .ok (.goto (-24), 3) := by decide +kernel
theorem dL_law_120 : decode cL_law 120 = .ok (.iload_n 3, 1) := by decide +kernel
theorem dL_law_121 : decode cL_law 121 = .ok (.ifCond .eq 23, 3) := by decide +kernel
theorem dL_law_124 : decode cL_law 124 = .ok (.aload_n 1, 1) := by decide +kernel
theorem dL_law_125 : decode cL_law 125 = .ok (.aload_n 2, 1) := by decide +kernel
theorem dL_law_126 : decode cL_law 126 = .ok (.invokestatic 228, 3) := by decide +kernel
theorem dL_law_129 : decode cL_law 129 = .ok (.ifCond .eq 15, 3) := by decide +kernel
theorem dL_law_132 : decode cL_law 132 = .ok (.aload_n 1, 1) := by decide +kernel
theorem dL_law_133 : decode cL_law 133 = .ok (.aload_n 2, 1) := by decide +kernel
theorem dL_law_134 : decode cL_law 134 = .ok (.invokestatic 204, 3) := by decide +kernel
theorem dL_law_137 : decode cL_law 137 = .ok (.ifCond .eq 7, 3) := by decide +kernel
theorem dL_law_140 : decode cL_law 140 = .ok (.iconst 1, 1) := by decide +kernel
theorem dL_law_141 : decode cL_law 141 = .ok (.goto 4, 3) := by decide +kernel
theorem dL_law_144 : decode cL_law 144 = .ok (.iconst 0, 1) := by decide +kernel
theorem dL_law_145 : decode cL_law 145 = .ok (.ireturn, 1) := by decide +kernel
