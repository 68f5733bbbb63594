theorem dL_most_0 : decode cL_most 0 = .ok (.new 8, 3) := by decide +kernel
theorem dL_most_3 : decode cL_most 3 = .ok (.dup, 1) := by decide +kernel
theorem dL_most_4 : decode cL_most 4 = .ok (.invokespecial 110, 3) := by decide +kernel
theorem dL_most_7 : decode cL_most 7 = .ok (.astore_n 0, 1) := by decide +kernel
theorem dL_most_8 : decode cL_most 8 = .ok (.iconst 0, 1) := by decide +kernel
theorem dL_most_9 : decode cL_most 9 = .ok (.istore_n 1, 1) := by decide +kernel
theorem dL_most_10 : decode cL_most 10 = .ok (.iload_n 1, 1) := by decide +kernel
theorem dL_most_11 : decode cL_most 11 = .ok (.bipush 21, 2) := by decide +kernel
theorem dL_most_13 : decode cL_most 13 = .ok (.if_icmp .ge 111, 3) := by decide +kernel
theorem dL_most_16 : decode cL_most 16 = .ok (.aload_n 0, 1) := by decide +kernel
theorem dL_most_17 : decode cL_most 17 = .ok (.iconst 0, 1) := by decide +kernel
theorem dL_most_18 : decode cL_most 18 = .ok (.iload_n 1, 1) := by decide +kernel
theorem dL_most_19 : decode cL_most 19 = .ok (.bipush 6, 2) := by decide +kernel
theorem dL_most_21 : decode cL_most 21 = .ok (.irem, 1) := by decide +kernel
theorem dL_most_22 : decode cL_most 22 = .ok (.iload_n 1, 1) := by decide +kernel
theorem dL_most_23 : decode cL_most 23 = .ok (.iconst 1, 1) := by decide +kernel
theorem dL_most_24 : decode cL_most 24 = .ok (.iadd, 1) := by decide +kernel
theorem dL_most_25 : decode cL_most 25 = .ok (.bipush 6, 2) := by decide +kernel
theorem dL_most_27 : decode cL_most 27 = .ok (.irem, 1) := by decide +kernel
theorem dL_most_28 : decode cL_most 28 = .ok (.iload_n 1, 1) := by decide +kernel
theorem dL_most_29 : decode cL_most 29 = .ok (.bipush 8, 2) := by decide +kernel
theorem dL_most_31 : decode cL_most 31 = .ok (.irem, 1) := by decide +kernel
theorem dL_most_32 : decode cL_most 32 = .ok (.sipush 9999, 3) := by decide +kernel
theorem dL_most_35 : decode cL_most 35 = .ok (.bipush 19, 2) := by decide +kernel
theorem dL_most_37 : decode cL_most 37 = .ok (.invokestatic 99, 3) := by decide +kernel
theorem dL_most_40 : decode cL_most 40 = .ok (.iload_n 1, 1) := by decide +kernel
theorem dL_most_41 : decode cL_most 41 = .ok (.bipush 20, 2) := by decide +kernel
theorem dL_most_43 : decode cL_most 43 = .ok (.if_icmp .ge 7, 3) := by decide +kernel
theorem dL_most_46 : decode cL_most 46 = .ok (.iload_n 1, 1) := by decide +kernel
theorem dL_most_47 : decode cL_most 47 = .ok (.goto 5, 3) := by decide +kernel
theorem dL_most_50 : decode cL_most 50 = .ok (.ldc 89, 2) := by decide +kernel
theorem dL_most_52 : decode cL_most 52 = .ok (.if_icmp .eq 5, 3) := by decide +kernel
theorem dL_most_55 : decode cL_most 55 = .ok (.iconst 0, 1) := by decide +kernel
theorem dL_most_56 : decode cL_most 56 = .ok (.ireturn, 1) := by decide +kernel
theorem dL_most_57 : decode cL_most 57 = .ok (.iload_n 1, 1) := by decide +kernel
theorem dL_most_58 : decode cL_most 58 = .ok (.bipush 20, 2) := by decide +kernel
theorem dL_most_60 : decode cL_most 60 = .ok (.if_icmp .ge 58, 3) := by decide +kernel
theorem dL_most_63 : decode cL_most 63 = .ok (.aload_n 0, 1) := by decide +kernel
theorem dL_most_64 : decode cL_most 64 = .ok (.iload_n 1, 1) := by decide +kernel
theorem dL_most_65 : decode cL_most 65 = .ok (.sipush 9999, 3) := by decide +kernel
theorem dL_most_68 : decode cL_most 68 = .ok (.bipush 19, 2) := by decide +kernel
theorem dL_most_70 : decode cL_most 70 = .ok (.invokevirtual 13, 3) := by decide +kernel
theorem dL_most_73 : decode cL_most 73 = .ok (.iconst 1, 1) := by decide +kernel
theorem dL_most_74 : decode cL_most 74 = .ok (.if_icmp .ne 42, 3) := by decide +kernel
theorem dL_most_77 : decode cL_most 77 = .ok (.aload_n 0, 1) := by decide +kernel
theorem dL_most_78 : decode cL_most 78 = .ok (.iload_n 1, 1) := by decide +kernel
theorem dL_most_79 : decode cL_most 79 = .ok (.sipush 9999, 3) := by decide +kernel
theorem dL_most_82 : decode cL_most 82 = .ok (.bipush 19, 2) := by decide +kernel
theorem dL_most_84 : decode cL_most 84 = .ok (.invokevirtual 13, 3) := by decide +kernel
theorem dL_most_87 : decode cL_most 87 = .ok (.iconst 2, 1) := by decide +kernel
theorem dL_most_88 : decode cL_most 88 = .ok (.if_icmp .ne 28, 3) := by decide +kernel
theorem dL_most_91 : decode cL_most 91 = .ok (.aload_n 0, 1) := by decide +kernel
theorem dL_most_92 : decode cL_most 92 = .ok (.iconst 1, 1) := by decide +kernel
theorem dL_most_93 : decode cL_most 93 = .ok (.iload_n 1, 1) := by decide +kernel
theorem dL_most_94 : decode cL_most 94 = .ok (.iconst 1, 1) := by decide +kernel
theorem dL_most_95 : decode cL_most 95 = .ok (.iconst 0, 1) := by decide +kernel
theorem dL_most_96 : decode cL_most 96 = .ok (.iconst 0, 1) := by decide +kernel
theorem dL_most_97 : decode cL_most 97 = .ok (.iconst 0, 1) := by decide +kernel
theorem dL_most_98 : decode cL_most 98 = .ok (.invokestatic 99, 3) := by decide +kernel
theorem dL_most_101 : decode cL_most 101 = .ok (.ldc 89, 2) := by decide +kernel
theorem dL_most_103 : decode cL_most 103 = .ok (.if_icmp .ne 13, 3) := by decide +kernel
theorem dL_most_106 : decode cL_most 106 = .ok (.aload_n 0, 1) := by decide +kernel
theorem dL_most_107 : decode cL_most 107 = .ok (.iload_n 1, 1) := by decide +kernel
theorem dL_most_108 : decode cL_most 108 = .ok (.invokevirtual 17, 3) := by decide +kernel
theorem dL_most_111 : decode cL_most 111 = .ok (.ldc 173, 2) := by decide +kernel
theorem dL_most_113 : decode cL_most 113 = .ok (.if_icmp .eq 5, 3) := by decide +kernel
theorem dL_most_116 : decode cL_most 116 = .ok (.iconst 0, 1) := by decide +kernel
theorem dL_most_117 : decode cL_most 117 = .ok (.ireturn, 1) := by decide +kernel
theorem dL_most_118 : decode cL_most 118 = .ok (.iinc 1 1, 3) := by decide +kernel
theorem dL_most_121 : decode cL_most 121 = .ok (.goto (-111), 3) := by decide +kernel
theorem dL_most_124 : decode cL_most 124 = .ok (.aload_n 0, 1) := by decide +kernel
theorem dL_most_125 : decode cL_most 125 = .ok (.bipush 19, 2) := by decide +kernel
theorem dL_most_127 : decode cL_most 127 = .ok (.iconst 2, 1) := by decide +kernel
theorem dL_most_128 : decode cL_most 128 = .ok (.invokevirtual 27, 3) := by decide +kernel
theorem dL_most_131 : decode cL_most 131 = .ok (.sipush 23796, 3) := by decide +kernel
theorem dL_most_134 : decode cL_most 134 = .ok (.if_icmp .eq 5, 3) := by decide +kernel
theorem dL_most_137 : decode cL_most 137 = .ok (.iconst 0, 1) := by decide +kernel
theorem dL_most_138 : decode cL_most 138 = .ok (.ireturn, 1) := by decide +kernel
theorem dL_most_139 : decode cL_most 139 = .ok (.iconst 0, 1) := by decide +kernel
theorem dL_most_140 : decode cL_most 140 = .ok (.istore_n 1, 1) := by decide +kernel
theorem dL_most_141 : decode cL_most 141 = .ok (.iload_n 1, 1) := by decide +kernel
theorem dL_most_142 : decode cL_most 142 = .ok (.bipush 25, 2) := by decide +kernel
theorem dL_most_144 : decode cL_most 144 = .ok (.if_icmp .ge 44, 3) := by decide +kernel
theorem dL_most_147 : decode cL_most 147 = .ok (.aload_n 0, 1) := by decide +kernel
theorem dL_most_148 : decode cL_most 148 = .ok (.iconst 4, 1) := by decide +kernel
theorem dL_most_149 : decode cL_most 149 = .ok (.iload_n 1, 1) := by decide +kernel
theorem dL_most_150 : decode cL_most 150 = .ok (.bipush 20, 2) := by decide +kernel
theorem dL_most_152 : decode cL_most 152 = .ok (.irem, 1) := by decide +kernel
theorem dL_most_153 : decode cL_most 153 = .ok (.iload_n 1, 1) := by decide +kernel
theorem dL_most_154 : decode cL_most 154 = .ok (.bipush 20, 2) := by decide +kernel
theorem dL_most_156 : decode cL_most 156 = .ok (.idiv, 1) := by decide +kernel
theorem dL_most_157 : decode cL_most 157 = .ok (.iconst 1, 1) := by decide +kernel
theorem dL_most_158 : decode cL_most 158 = .ok (.iconst 0, 1) := by decide +kernel
theorem dL_most_159 : decode cL_most 159 = .ok (.iconst 0, 1) := by decide +kernel
theorem dL_most_160 : decode cL_most 160 = .ok (.invokestatic 99, 3) := by decide +kernel
theorem dL_most_163 : decode cL_most 163 = .ok (.iload_n 1, 1) := by decide +kernel
theorem dL_most_164 : decode cL_most 164 = .ok (.bipush 24, 2) := by decide +kernel
theorem dL_most_166 : decode cL_most 166 = .ok (.if_icmp .ge 9, 3) := by decide +kernel
theorem dL_most_169 : decode cL_most 169 = .ok (.sipush 9998, 3) := by decide +kernel
theorem dL_most_172 : decode cL_most 172 = .ok (.goto 5, 3) := by decide +kernel
theorem dL_most_175 : decode cL_most 175 = .ok (.ldc 89, 2) := by decide +kernel
theorem dL_most_177 : decode cL_most 177 = .ok (.if_icmp .eq 5, 3) := by decide +kernel
theorem dL_most_180 : decode cL_most 180 = .ok (.iconst 0, 1) := by decide +kernel
theorem dL_most_181 : decode cL_most 181 = .ok (.ireturn, 1) := by decide +kernel
theorem dL_most_182 : decode cL_most 182 = .ok (.iinc 1 1, 3) := by decide +kernel
theorem dL_most_185 : decode cL_most 185 = .ok (.goto (-44), 3) := by decide +kernel
theorem dL_most_188 : decode cL_most 188 = .ok (.aload_n 0, 1) := by decide +kernel
theorem dL_most_189 : decode cL_most 189 = .ok (.bipush 6, 2) := by decide +kernel
theorem dL_most_191 : decode cL_most 191 = .ok (.bipush 19, 2) := by decide +kernel
theorem dL_most_193 : decode cL_most 193 = .ok (.iconst 2, 1) := by decide +kernel
theorem dL_most_194 : decode cL_most 194 = .ok (.iconst 1, 1) := by decide +kernel
theorem dL_most_195 : decode cL_most 195 = .ok (.iconst 0, 1) := by decide +kernel
theorem dL_most_196 : decode cL_most 196 = .ok (.iconst 0, 1) := by decide +kernel
theorem dL_most_197 : decode cL_most 197 = .ok (.invokestatic 99, 3) := by decide +kernel
theorem dL_most_200 : decode cL_most 200 = .ok (.ldc 89, 2) := by decide +kernel
theorem dL_most_202 : decode cL_most 202 = .ok (.if_icmp .ne 71, 3) := by decide +kernel
theorem dL_most_205 : decode cL_most 205 = .ok (.aload_n 0, 1) := by decide +kernel
theorem dL_most_206 : decode cL_most 206 = .ok (.bipush 19, 2) := by decide +kernel
theorem dL_most_208 : decode cL_most 208 = .ok (.iconst 2, 1) := by decide +kernel
theorem dL_most_209 : decode cL_most 209 = .ok (.iconst 0, 1) := by decide +kernel
theorem dL_most_210 : decode cL_most 210 = .ok (.invokevirtual 31, 3) := by decide +kernel
theorem dL_most_213 : decode cL_most 213 = .ok (.ldc 174, 2) := by decide +kernel
theorem dL_most_215 : decode cL_most 215 = .ok (.if_icmp .ne 58, 3) := by decide +kernel
theorem dL_most_218 : decode cL_most 218 = .ok (.aload_n 0, 1) := by decide +kernel
theorem dL_most_219 : decode cL_most 219 = .ok (.iconst 0, 1) := by decide +kernel
theorem dL_most_220 : decode cL_most 220 = .ok (.invokevirtual 69, 3) := by decide +kernel
theorem dL_most_223 : decode cL_most 223 = .ok (.ldc 175, 2) := by decide +kernel
theorem dL_most_225 : decode cL_most 225 = .ok (.if_icmp .ne 48, 3) := by decide +kernel
theorem dL_most_228 : decode cL_most 228 = .ok (.aload_n 0, 1) := by decide +kernel
theorem dL_most_229 : decode cL_most 229 = .ok (.iconst 5, 1) := by decide +kernel
theorem dL_most_230 : decode cL_most 230 = .ok (.invokevirtual 66, 3) := by decide +kernel
theorem dL_most_233 : decode cL_most 233 = .ok (.ldc 175, 2) := by decide +kernel
theorem dL_most_235 : decode cL_most 235 = .ok (.if_icmp .ne 38, 3) := by decide +kernel
theorem dL_most_238 : decode cL_most 238 = .ok (.aload_n 0, 1) := by decide +kernel
theorem dL_most_239 : decode cL_most 239 = .ok (.bipush 19, 2) := by decide +kernel
theorem dL_most_241 : decode cL_most 241 = .ok (.iconst 4, 1) := by decide +kernel
theorem dL_most_242 : decode cL_most 242 = .ok (.bipush 100, 2) := by decide +kernel
theorem dL_most_244 : decode cL_most 244 = .ok (.iconst 0, 1) := by decide +kernel
theorem dL_most_245 : decode cL_most 245 = .ok (.invokevirtual 35, 3) := by decide +kernel
theorem dL_most_248 : decode cL_most 248 = .ok (.ldc 174, 2) := by decide +kernel
theorem dL_most_250 : decode cL_most 250 = .ok (.if_icmp .ne 23, 3) := by decide +kernel
theorem dL_most_253 : decode cL_most 253 = .ok (.aload_n 0, 1) := by decide +kernel
theorem dL_most_254 : decode cL_most 254 = .ok (.iconst 4, 1) := by decide +kernel
theorem dL_most_255 : decode cL_most 255 = .ok (.ldc 176, 2) := by decide +kernel
theorem dL_most_257 : decode cL_most 257 = .ok (.invokestatic 118, 3) := by decide +kernel
theorem dL_most_260 : decode cL_most 260 = .ok (.ifCond .eq 13, 3) := by decide +kernel
theorem dL_most_263 : decode cL_most 263 = .ok (.aload_n 0, 1) := by decide +kernel
theorem dL_most_264 : decode cL_most 264 = .ok (.iconst 4, 1) := by decide +kernel
theorem dL_most_265 : decode cL_most 265 = .ok (.invokevirtual 66, 3) := by decide +kernel
theorem dL_most_268 : decode cL_most 268 = .ok (.ldc 177, 2) := by decide +kernel
theorem dL_most_270 : decode cL_most 270 = .ok (.if_icmp .eq 5, 3) := by decide +kernel
theorem dL_most_273 : decode cL_most 273 = .ok (.iconst 0, 1) := by decide +kernel
theorem dL_most_274 : decode cL_most 274 = .ok (.ireturn, 1) := by decide +kernel
theorem dL_most_275 : decode cL_most 275 = .ok (.iconst 1, 1) := by decide +kernel
theorem dL_most_276 : decode cL_most 276 = .ok (.istore_n 1, 1) := by decide +kernel
theorem dL_most_277 : decode cL_most 277 = .ok (.iload_n 1, 1) := by decide +kernel
theorem dL_most_278 : decode cL_most 278 = .ok (.bipush 17, 2) := by decide +kernel
theorem dL_most_280 : decode cL_most 280 = .ok (.if_icmp .ge 23, 3) := by decide +kernel
theorem dL_most_283 : decode cL_most 283 = .ok (.aload_n 0, 1) := by decide +kernel
theorem dL_most_284 : decode cL_most 284 = .ok (.bipush 60, 2) := by decide +kernel
theorem dL_most_286 : decode cL_most 286 = .ok (.invokevirtual 51, 3) := by decide +kernel
theorem dL_most_289 : decode cL_most 289 = .ok (.iconst 2, 1) := by decide +kernel
theorem dL_most_290 : decode cL_most 290 = .ok (.iload_n 1, 1) := by decide +kernel
theorem dL_most_291 : decode cL_most 291 = .ok (.imul, 1) := by decide +kernel
theorem dL_most_292 : decode cL_most 292 = .ok (.if_icmp .eq 5, 3) := by decide +kernel
theorem dL_most_295 : decode cL_most 295 = .ok (.iconst 0, 1) := by decide +kernel
theorem dL_most_296 : decode cL_most 296 = .ok (.ireturn, 1) := by decide +kernel
theorem dL_most_297 : decode cL_most 297 = .ok (.iinc 1 1, 3) := by decide +kernel
theorem dL_most_300 : decode cL_most 300 = .ok (.goto (-23), 3) := by decide +kernel
theorem dL_most_303 : decode cL_most 303 = .ok (.aload_n 0, 1) := by decide +kernel
theorem dL_most_304 : decode cL_most 304 = .ok (.bipush 39, 2) := by decide +kernel
theorem dL_most_306 : decode cL_most 306 = .ok (.invokevirtual 51, 3) := by decide +kernel
theorem dL_most_309 : decode cL_most 309 = .ok (.bipush 33, 2) := by decide +kernel
theorem dL_most_311 : decode cL_most 311 = .ok (.if_icmp .ne 105, 3) := by decide +kernel
theorem dL_most_314 : decode cL_most 314 = .ok (.aload_n 0, 1) := by decide +kernel
theorem dL_most_315 : decode cL_most 315 = .ok (.bipush 12, 2) := by decide +kernel
theorem dL_most_317 : decode cL_most 317 = .ok (.iconst 1, 1) := by decide +kernel
theorem dL_most_318 : decode cL_most 318 = .ok (.iconst 0, 1) := by decide +kernel
theorem dL_most_319 : decode cL_most 319 = .ok (.iconst 0, 1) := by decide +kernel
theorem dL_most_320 : decode cL_most 320 = .ok (.iconst 0, 1) := by decide +kernel
theorem dL_most_321 : decode cL_most 321 = .ok (.iconst 0, 1) := by decide +kernel
theorem dL_most_322 : decode cL_most 322 = .ok (.invokestatic 99, 3) := by decide +kernel
theorem dL_most_325 : decode cL_most 325 = .ok (.ldc 89, 2) := by decide +kernel
theorem dL_most_327 : decode cL_most 327 = .ok (.if_icmp .ne 89, 3) := by decide +kernel
theorem dL_most_330 : decode cL_most 330 = .ok (.aload_n 0, 1) := by decide +kernel
theorem dL_most_331 : decode cL_most 331 = .ok (.invokevirtual 91, 3) := by decide +kernel
theorem dL_most_334 : decode cL_most 334 = .ok (.sipush 999, 3) := by decide +kernel
theorem dL_most_337 : decode cL_most 337 = .ok (.if_icmp .ne 79, 3) := by decide +kernel
theorem dL_most_340 : decode cL_most 340 = .ok (.aload_n 0, 1) := by decide +kernel
theorem dL_most_341 : decode cL_most 341 = .ok (.iconst 0, 1) := by decide +kernel
theorem dL_most_342 : decode cL_most 342 = .ok (.bipush 33, 2) := by decide +kernel
theorem dL_most_344 : decode cL_most 344 = .ok (.iconst 0, 1) := by decide +kernel
theorem dL_most_345 : decode cL_most 345 = .ok (.iconst 0, 1) := by decide +kernel
theorem dL_most_346 : decode cL_most 346 = .ok (.invokestatic 127, 3) := by decide +kernel
theorem dL_most_349 : decode cL_most 349 = .ok (.ifCond .eq 67, 3) := by decide +kernel
theorem dL_most_352 : decode cL_most 352 = .ok (.aload_n 0, 1) := by decide +kernel
theorem dL_most_353 : decode cL_most 353 = .ok (.iconst 0, 1) := by decide +kernel
theorem dL_most_354 : decode cL_most 354 = .ok (.iconst 0, 1) := by decide +kernel
theorem dL_most_355 : decode cL_most 355 = .ok (.sipush 5697, 3) := by decide +kernel
theorem dL_most_358 : decode cL_most 358 = .ok (.iconst 0, 1) := by decide +kernel
theorem dL_most_359 : decode cL_most 359 = .ok (.invokestatic 127, 3) := by decide +kernel
theorem dL_most_362 : decode cL_most 362 = .ok (.ifCond .eq 54, 3) := by decide +kernel
theorem dL_most_365 : decode cL_most 365 = .ok (.aload_n 0, 1) := by decide +kernel
theorem dL_most_366 : decode cL_most 366 = .ok (.iconst 1, 1) := by decide +kernel
theorem dL_most_367 : decode cL_most 367 = .ok (.iconst 0, 1) := by decide +kernel
theorem dL_most_368 : decode cL_most 368 = .ok (.iconst 0, 1) := by decide +kernel
theorem dL_most_369 : decode cL_most 369 = .ok (.iconst 0, 1) := by decide +kernel
theorem dL_most_370 : decode cL_most 370 = .ok (.invokestatic 127, 3) := by decide +kernel
theorem dL_most_373 : decode cL_most 373 = .ok (.ifCond .eq 43, 3) := by decide +kernel
theorem dL_most_376 : decode cL_most 376 = .ok (.aload_n 0, 1) := by decide +kernel
theorem dL_most_377 : decode cL_most 377 = .ok (.iconst 2, 1) := by decide +kernel
theorem dL_most_378 : decode cL_most 378 = .ok (.iconst 0, 1) := by decide +kernel
theorem dL_most_379 : decode cL_most 379 = .ok (.iconst 0, 1) := by decide +kernel
theorem dL_most_380 : decode cL_most 380 = .ok (.sipush (-5697), 3) := by decide +kernel
theorem dL_most_383 : decode cL_most 383 = .ok (.invokestatic 127, 3) := by decide +kernel
theorem dL_most_386 : decode cL_most 386 = .ok (.ifCond .eq 30, 3) := by decide +kernel
theorem dL_most_389 : decode cL_most 389 = .ok (.aload_n 0, 1) := by decide +kernel
theorem dL_most_390 : decode cL_most 390 = .ok (.iconst 2, 1) := by decide +kernel
theorem dL_most_391 : decode cL_most 391 = .ok (.bipush 33, 2) := by decide +kernel
theorem dL_most_393 : decode cL_most 393 = .ok (.iconst 0, 1) := by decide +kernel
theorem dL_most_394 : decode cL_most 394 = .ok (.sipush (-5697), 3) := by decide +kernel
theorem dL_most_397 : decode cL_most 397 = .ok (.invokestatic 127, 3) := by decide +kernel
theorem dL_most_400 : decode cL_most 400 = .ok (.ifCond .eq 16, 3) := by decide +kernel
theorem dL_most_403 : decode cL_most 403 = .ok (.aload_n 0, 1) := by decide +kernel
theorem dL_most_404 : decode cL_most 404 = .ok (.bipush 20, 2) := by decide +kernel
theorem dL_most_406 : decode cL_most 406 = .ok (.invokestatic 111, 3) := by decide +kernel
theorem dL_most_409 : decode cL_most 409 = .ok (.ifCond .eq 7, 3) := by decide +kernel
theorem dL_most_412 : decode cL_most 412 = .ok (.iconst 1, 1) := by decide +kernel
theorem dL_most_413 : decode cL_most 413 = .ok (.goto 4, 3) := by decide +kernel
theorem dL_most_416 : decode cL_most 416 = .ok (.iconst 0, 1) := by decide +kernel
theorem dL_most_417 : decode cL_most 417 = .ok (.ireturn, 1) := by decide +kernel
