theorem dL_texts_0 : decode cL_texts 0 = .ok (.new 8, 3) := by decide +kernel
theorem dL_texts_3 : decode cL_texts 3 = .ok (.dup, 1) := by decide +kernel
theorem dL_texts_4 : decode cL_texts 4 = .ok (.invokespecial 110, 3) := by decide +kernel
theorem dL_texts_7 : decode cL_texts 7 = .ok (.astore_n 0, 1) := by decide +kernel
theorem dL_texts_8 : decode cL_texts 8 = .ok (.aload_n 0, 1) := by decide +kernel
theorem dL_texts_9 : decode cL_texts 9 = .ok (.invokevirtual 95, 3) := by decide +kernel
theorem dL_texts_12 : decode cL_texts 12 = .ok (.ifCond .ne 133, 3) := by decide +kernel
theorem dL_texts_15 : decode cL_texts 15 = .ok (.aload_n 0, 1) := by decide +kernel
theorem dL_texts_16 : decode cL_texts 16 = .ok (.ldc2_w 141, 3) := by decide +kernel
theorem dL_texts_19 : decode cL_texts 19 = .ok (.iconst 1, 1) := by decide +kernel
theorem dL_texts_20 : decode cL_texts 20 = .ok (.invokestatic 123, 3) := by decide +kernel
theorem dL_texts_23 : decode cL_texts 23 = .ok (.iconst 1, 1) := by decide +kernel
theorem dL_texts_24 : decode cL_texts 24 = .ok (.if_icmp .ne 121, 3) := by decide +kernel
theorem dL_texts_27 : decode cL_texts 27 = .ok (.aload_n 0, 1) := by decide +kernel
theorem dL_texts_28 : decode cL_texts 28 = .ok (.ldc2_w 143, 3) := by decide +kernel
theorem dL_texts_31 : decode cL_texts 31 = .ok (.iconst 2, 1) := by decide +kernel
theorem dL_texts_32 : decode cL_texts 32 = .ok (.invokestatic 123, 3) := by decide +kernel
theorem dL_texts_35 : decode cL_texts 35 = .ok (.iconst (-1), 1) := by decide +kernel
theorem dL_texts_36 : decode cL_texts 36 = .ok (.if_icmp .ne 109, 3) := by decide +kernel
theorem dL_texts_39 : decode cL_texts 39 = .ok (.aload_n 0, 1) := by decide +kernel
theorem dL_texts_40 : decode cL_texts 40 = .ok (.ldc2_w 145, 3) := by decide +kernel
theorem dL_texts_43 : decode cL_texts 43 = .ok (.iconst 3, 1) := by decide +kernel
theorem dL_texts_44 : decode cL_texts 44 = .ok (.invokestatic 123, 3) := by decide +kernel
theorem dL_texts_47 : decode cL_texts 47 = .ok (.iconst (-1), 1) := by decide +kernel
theorem dL_texts_48 : decode cL_texts 48 = .ok (.if_icmp .ne 97, 3) := by decide +kernel
theorem dL_texts_51 : decode cL_texts 51 = .ok (.aload_n 0, 1) := by decide +kernel
theorem dL_texts_52 : decode cL_texts 52 = .ok (.ldc2_w 147, 3) := by decide +kernel
theorem dL_texts_55 : decode cL_texts 55 = .ok (.iconst 4, 1) := by decide +kernel
theorem dL_texts_56 : decode cL_texts 56 = .ok (.invokestatic 123, 3) := by decide +kernel
theorem dL_texts_59 : decode cL_texts 59 = .ok (.iconst 3, 1) := by decide +kernel
theorem dL_texts_60 : decode cL_texts 60 = .ok (.if_icmp .ne 85, 3) := by decide +kernel
theorem dL_texts_63 : decode cL_texts 63 = .ok (.aload_n 0, 1) := by decide +kernel
theorem dL_texts_64 : decode cL_texts 64 = .ok (.ldc2_w 149, 3) := by decide +kernel
theorem dL_texts_67 : decode cL_texts 67 = .ok (.iconst 2, 1) := by decide +kernel
theorem dL_texts_68 : decode cL_texts 68 = .ok (.invokestatic 123, 3) := by decide +kernel
theorem dL_texts_71 : decode cL_texts 71 = .ok (.ifCond .ne 74, 3) := by decide +kernel
theorem dL_texts_74 : decode cL_texts 74 = .ok (.aload_n 0, 1) := by decide +kernel
theorem dL_texts_75 : decode cL_texts 75 = .ok (.ldc2_w 151, 3) := by decide +kernel
theorem dL_texts_78 : decode cL_texts 78 = .ok (.iconst 2, 1) := by decide +kernel
theorem dL_texts_79 : decode cL_texts 79 = .ok (.invokestatic 123, 3) := by decide +kernel
theorem dL_texts_82 : decode cL_texts 82 = .ok (.iconst 1, 1) := by decide +kernel
theorem dL_texts_83 : decode cL_texts 83 = .ok (.if_icmp .ne 62, 3) := by decide +kernel
theorem dL_texts_86 : decode cL_texts 86 = .ok (.aload_n 0, 1) := by decide +kernel
theorem dL_texts_87 : decode cL_texts 87 = .ok (.ldc2_w 153, 3) := by decide +kernel
theorem dL_texts_90 : decode cL_texts 90 = .ok (.iconst 3, 1) := by decide +kernel
theorem dL_texts_91 : decode cL_texts 91 = .ok (.invokestatic 123, 3) := by decide +kernel
theorem dL_texts_94 : decode cL_texts 94 = .ok (.iconst 2, 1) := by decide +kernel
theorem dL_texts_95 : decode cL_texts 95 = .ok (.if_icmp .ne 50, 3) := by decide +kernel
theorem dL_texts_98 : decode cL_texts 98 = .ok (.aload_n 0, 1) := by decide +kernel
theorem dL_texts_99 : decode cL_texts 99 = .ok (.ldc2_w 155, 3) := by decide +kernel
theorem dL_texts_102 : decode cL_texts 102 = .ok (.iconst 2, 1) := by decide +kernel
theorem dL_texts_103 : decode cL_texts 103 = .ok (.invokestatic 123, 3) := by decide +kernel
theorem dL_texts_106 : decode cL_texts 106 = .ok (.iconst 1, 1) := by decide +kernel
theorem dL_texts_107 : decode cL_texts 107 = .ok (.if_icmp .ne 38, 3) := by decide +kernel
theorem dL_texts_110 : decode cL_texts 110 = .ok (.aload_n 0, 1) := by decide +kernel
theorem dL_texts_111 : decode cL_texts 111 = .ok (.ldc2_w 157, 3) := by decide +kernel
theorem dL_texts_114 : decode cL_texts 114 = .ok (.iconst 1, 1) := by decide +kernel
theorem dL_texts_115 : decode cL_texts 115 = .ok (.invokestatic 123, 3) := by decide +kernel
theorem dL_texts_118 : decode cL_texts 118 = .ok (.ifCond .ne 27, 3) := by decide +kernel
theorem dL_texts_121 : decode cL_texts 121 = .ok (.aload_n 0, 1) := by decide +kernel
theorem dL_texts_122 : decode cL_texts 122 = .ok (.ldc2_w 159, 3) := by decide +kernel
theorem dL_texts_125 : decode cL_texts 125 = .ok (.iconst 2, 1) := by decide +kernel
theorem dL_texts_126 : decode cL_texts 126 = .ok (.invokestatic 123, 3) := by decide +kernel
theorem dL_texts_129 : decode cL_texts 129 = .ok (.iconst 1, 1) := by decide +kernel
theorem dL_texts_130 : decode cL_texts 130 = .ok (.if_icmp .ne 15, 3) := by decide +kernel
theorem dL_texts_133 : decode cL_texts 133 = .ok (.aload_n 0, 1) := by decide +kernel
theorem dL_texts_134 : decode cL_texts 134 = .ok (.ldc2_w 161, 3) := by decide +kernel
theorem dL_texts_137 : decode cL_texts 137 = .ok (.iconst 2, 1) := by decide +kernel
theorem dL_texts_138 : decode cL_texts 138 = .ok (.invokestatic 123, 3) := by decide +kernel
theorem dL_texts_141 : decode cL_texts 141 = .ok (.iconst 1, 1) := by decide +kernel
theorem dL_texts_142 : decode cL_texts 142 = .ok (.if_icmp .eq 5, 3) := by decide +kernel
theorem dL_texts_145 : decode cL_texts 145 = .ok (.iconst 0, 1) := by decide +kernel
theorem dL_texts_146 : decode cL_texts 146 = .ok (.ireturn, 1) := by decide +kernel
theorem dL_texts_147 : decode cL_texts 147 = .ok (.iconst 0, 1) := by decide +kernel
theorem dL_texts_148 : decode cL_texts 148 = .ok (.istore_n 1, 1) := by decide +kernel
theorem dL_texts_149 : decode cL_texts 149 = .ok (.iload_n 1, 1) := by decide +kernel
theorem dL_texts_150 : decode cL_texts 150 = .ok (.bipush 9, 2) := by decide +kernel
theorem dL_texts_152 : decode cL_texts 152 = .ok (.if_icmp .ge 42, 3) := by decide +kernel
theorem dL_texts_155 : decode cL_texts 155 = .ok (.aload_n 0, 1) := by decide +kernel
theorem dL_texts_156 : decode cL_texts 156 = .ok (.iconst 0, 1) := by decide +kernel
theorem dL_texts_157 : decode cL_texts 157 = .ok (.iconst 1, 1) := by decide +kernel
theorem dL_texts_158 : decode cL_texts 158 = .ok (.iload_n 1, 1) := by decide +kernel
theorem dL_texts_159 : decode cL_texts 159 = .ok (.bipush 8, 2) := by decide +kernel
theorem dL_texts_161 : decode cL_texts 161 = .ok (.irem, 1) := by decide +kernel
theorem dL_texts_162 : decode cL_texts 162 = .ok (.bipush 10, 2) := by decide +kernel
theorem dL_texts_164 : decode cL_texts 164 = .ok (.iload_n 1, 1) := by decide +kernel
theorem dL_texts_165 : decode cL_texts 165 = .ok (.iadd, 1) := by decide +kernel
theorem dL_texts_166 : decode cL_texts 166 = .ok (.iconst 0, 1) := by decide +kernel
theorem dL_texts_167 : decode cL_texts 167 = .ok (.invokevirtual 7, 3) := by decide +kernel
theorem dL_texts_170 : decode cL_texts 170 = .ok (.iload_n 1, 1) := by decide +kernel
theorem dL_texts_171 : decode cL_texts 171 = .ok (.if_icmp .ne 15, 3) := by decide +kernel
theorem dL_texts_174 : decode cL_texts 174 = .ok (.aload_n 0, 1) := by decide +kernel
theorem dL_texts_175 : decode cL_texts 175 = .ok (.iload_n 1, 1) := by decide +kernel
theorem dL_texts_176 : decode cL_texts 176 = .ok (.invokevirtual 17, 3) := by decide +kernel
theorem dL_texts_179 : decode cL_texts 179 = .ok (.bipush 10, 2) := by decide +kernel
theorem dL_texts_181 : decode cL_texts 181 = .ok (.iload_n 1, 1) := by decide +kernel
theorem dL_texts_182 : decode cL_texts 182 = .ok (.iadd, 1) := by decide +kernel
theorem dL_texts_183 : decode cL_texts 183 = .ok (.if_icmp .eq 5, 3) := by decide +kernel
theorem dL_texts_186 : decode cL_texts 186 = .ok (.iconst 0, 1) := by decide +kernel
theorem dL_texts_187 : decode cL_texts 187 = .ok (.ireturn, 1) := by decide +kernel
theorem dL_texts_188 : decode cL_texts 188 = .ok (.iinc 1 1, 3) := by decide +kernel
theorem dL_texts_191 : decode cL_texts 191 = .ok (.goto (-42), 3) := by decide +kernel
theorem dL_texts_194 : decode cL_texts 194 = .ok (.aload_n 0, 1) := by decide +kernel
theorem dL_texts_195 : decode cL_texts 195 = .ok (.ldc2_w 163, 3) := by decide +kernel
theorem dL_texts_198 : decode cL_texts 198 = .ok (.bipush 8, 2) := by decide +kernel
theorem dL_texts_200 : decode cL_texts 200 = .ok (.invokestatic 123, 3) := by decide +kernel
theorem dL_texts_203 : decode cL_texts 203 = .ok (.iconst 3, 1) := by decide +kernel
theorem dL_texts_204 : decode cL_texts 204 = .ok (.if_icmp .ne 51, 3) := by decide +kernel
theorem dL_texts_207 : decode cL_texts 207 = .ok (.aload_n 0, 1) := by decide +kernel
theorem dL_texts_208 : decode cL_texts 208 = .ok (.bipush 32, 2) := by decide +kernel
theorem dL_texts_210 : decode cL_texts 210 = .ok (.invokevirtual 42, 3) := by decide +kernel
theorem dL_texts_213 : decode cL_texts 213 = .ok (.bipush 9, 2) := by decide +kernel
theorem dL_texts_215 : decode cL_texts 215 = .ok (.if_icmp .ne 40, 3) := by decide +kernel
theorem dL_texts_218 : decode cL_texts 218 = .ok (.aload_n 0, 1) := by decide +kernel
theorem dL_texts_219 : decode cL_texts 219 = .ok (.bipush 126, 2) := by decide +kernel
theorem dL_texts_221 : decode cL_texts 221 = .ok (.invokevirtual 42, 3) := by decide +kernel
theorem dL_texts_224 : decode cL_texts 224 = .ok (.bipush 10, 2) := by decide +kernel
theorem dL_texts_226 : decode cL_texts 226 = .ok (.if_icmp .ne 29, 3) := by decide +kernel
theorem dL_texts_229 : decode cL_texts 229 = .ok (.aload_n 0, 1) := by decide +kernel
theorem dL_texts_230 : decode cL_texts 230 = .ok (.bipush 9, 2) := by decide +kernel
theorem dL_texts_232 : decode cL_texts 232 = .ok (.bipush 50, 2) := by decide +kernel
theorem dL_texts_234 : decode cL_texts 234 = .ok (.iconst 0, 1) := by decide +kernel
theorem dL_texts_235 : decode cL_texts 235 = .ok (.iconst 0, 1) := by decide +kernel
theorem dL_texts_236 : decode cL_texts 236 = .ok (.iconst 0, 1) := by decide +kernel
theorem dL_texts_237 : decode cL_texts 237 = .ok (.iconst 0, 1) := by decide +kernel
theorem dL_texts_238 : decode cL_texts 238 = .ok (.invokestatic 99, 3) := by decide +kernel
theorem dL_texts_241 : decode cL_texts 241 = .ok (.ldc 89, 2) := by decide +kernel
theorem dL_texts_243 : decode cL_texts 243 = .ok (.if_icmp .ne 12, 3) := by decide +kernel
theorem dL_texts_246 : decode cL_texts 246 = .ok (.aload_n 0, 1) := by decide +kernel
theorem dL_texts_247 : decode cL_texts 247 = .ok (.invokevirtual 105, 3) := by decide +kernel
theorem dL_texts_250 : decode cL_texts 250 = .ok (.bipush 10, 2) := by decide +kernel
theorem dL_texts_252 : decode cL_texts 252 = .ok (.if_icmp .eq 5, 3) := by decide +kernel
theorem dL_texts_255 : decode cL_texts 255 = .ok (.iconst 0, 1) := by decide +kernel
theorem dL_texts_256 : decode cL_texts 256 = .ok (.ireturn, 1) := by decide +kernel
theorem dL_texts_257 : decode cL_texts 257 = .ok (.aload_n 0, 1) := by decide +kernel
theorem dL_texts_258 : decode cL_texts 258 = .ok (.ldc2_w 165, 3) := by decide +kernel
theorem dL_texts_261 : decode cL_texts 261 = .ok (.iconst 3, 1) := by decide +kernel
theorem dL_texts_262 : decode cL_texts 262 = .ok (.invokestatic 123, 3) := by decide +kernel
theorem dL_texts_265 : decode cL_texts 265 = .ok (.iconst (-1), 1) := by decide +kernel
theorem dL_texts_266 : decode cL_texts 266 = .ok (.if_icmp .ne 189, 3) := by decide +kernel
theorem dL_texts_269 : decode cL_texts 269 = .ok (.aload_n 0, 1) := by decide +kernel
theorem dL_texts_270 : decode cL_texts 270 = .ok (.iconst 1, 1) := by decide +kernel
theorem dL_texts_271 : decode cL_texts 271 = .ok (.iconst 0, 1) := by decide +kernel
theorem dL_texts_272 : decode cL_texts 272 = .ok (.iconst 3, 1) := by decide +kernel
theorem dL_texts_273 : decode cL_texts 273 = .ok (.invokevirtual 45, 3) := by decide +kernel
theorem dL_texts_276 : decode cL_texts 276 = .ok (.bipush 7, 2) := by decide +kernel
theorem dL_texts_278 : decode cL_texts 278 = .ok (.if_icmp .ne 177, 3) := by decide +kernel
theorem dL_texts_281 : decode cL_texts 281 = .ok (.aload_n 0, 1) := by decide +kernel
theorem dL_texts_282 : decode cL_texts 282 = .ok (.bipush 7, 2) := by decide +kernel
theorem dL_texts_284 : decode cL_texts 284 = .ok (.iconst 1, 1) := by decide +kernel
theorem dL_texts_285 : decode cL_texts 285 = .ok (.iconst 0, 1) := by decide +kernel
theorem dL_texts_286 : decode cL_texts 286 = .ok (.bipush 17, 2) := by decide +kernel
theorem dL_texts_288 : decode cL_texts 288 = .ok (.bipush 14, 2) := by decide +kernel
theorem dL_texts_290 : decode cL_texts 290 = .ok (.iconst 3, 1) := by decide +kernel
theorem dL_texts_291 : decode cL_texts 291 = .ok (.invokestatic 115, 3) := by decide +kernel
theorem dL_texts_294 : decode cL_texts 294 = .ok (.ifCond .eq 161, 3) := by decide +kernel
theorem dL_texts_297 : decode cL_texts 297 = .ok (.aload_n 0, 1) := by decide +kernel
theorem dL_texts_298 : decode cL_texts 298 = .ok (.ldc2_w 167, 3) := by decide +kernel
theorem dL_texts_301 : decode cL_texts 301 = .ok (.iconst 2, 1) := by decide +kernel
theorem dL_texts_302 : decode cL_texts 302 = .ok (.invokestatic 123, 3) := by decide +kernel
theorem dL_texts_305 : decode cL_texts 305 = .ok (.iconst (-1), 1) := by decide +kernel
theorem dL_texts_306 : decode cL_texts 306 = .ok (.if_icmp .ne 149, 3) := by decide +kernel
theorem dL_texts_309 : decode cL_texts 309 = .ok (.aload_n 0, 1) := by decide +kernel
theorem dL_texts_310 : decode cL_texts 310 = .ok (.iconst 1, 1) := by decide +kernel
theorem dL_texts_311 : decode cL_texts 311 = .ok (.iconst 0, 1) := by decide +kernel
theorem dL_texts_312 : decode cL_texts 312 = .ok (.bipush 18, 2) := by decide +kernel
theorem dL_texts_314 : decode cL_texts 314 = .ok (.invokevirtual 45, 3) := by decide +kernel
theorem dL_texts_317 : decode cL_texts 317 = .ok (.bipush 8, 2) := by decide +kernel
theorem dL_texts_319 : decode cL_texts 319 = .ok (.if_icmp .ne 136, 3) := by decide +kernel
theorem dL_texts_322 : decode cL_texts 322 = .ok (.aload_n 0, 1) := by decide +kernel
theorem dL_texts_323 : decode cL_texts 323 = .ok (.ldc2_w 169, 3) := by decide +kernel
theorem dL_texts_326 : decode cL_texts 326 = .ok (.iconst 2, 1) := by decide +kernel
theorem dL_texts_327 : decode cL_texts 327 = .ok (.invokestatic 123, 3) := by decide +kernel
theorem dL_texts_330 : decode cL_texts 330 = .ok (.iconst (-1), 1) := by decide +kernel
theorem dL_texts_331 : decode cL_texts 331 = .ok (.if_icmp .ne 124, 3) := by decide +kernel
theorem dL_texts_334 : decode cL_texts 334 = .ok (.aload_n 0, 1) := by decide +kernel
theorem dL_texts_335 : decode cL_texts 335 = .ok (.bipush 10, 2) := by decide +kernel
theorem dL_texts_337 : decode cL_texts 337 = .ok (.iconst 1, 1) := by decide +kernel
theorem dL_texts_338 : decode cL_texts 338 = .ok (.iconst 0, 1) := by decide +kernel
theorem dL_texts_339 : decode cL_texts 339 = .ok (.iconst 1, 1) := by decide +kernel
theorem dL_texts_340 : decode cL_texts 340 = .ok (.iconst 0, 1) := by decide +kernel
theorem dL_texts_341 : decode cL_texts 341 = .ok (.iconst 0, 1) := by decide +kernel
theorem dL_texts_342 : decode cL_texts 342 = .ok (.invokestatic 99, 3) := by decide +kernel
theorem dL_texts_345 : decode cL_texts 345 = .ok (.ldc 89, 2) := by decide +kernel
theorem dL_texts_347 : decode cL_texts 347 = .ok (.if_icmp .ne 108, 3) := by decide +kernel
theorem dL_texts_350 : decode cL_texts 350 = .ok (.aload_n 0, 1) := by decide +kernel
theorem dL_texts_351 : decode cL_texts 351 = .ok (.invokevirtual 105, 3) := by decide +kernel
theorem dL_texts_354 : decode cL_texts 354 = .ok (.iconst 2, 1) := by decide +kernel
theorem dL_texts_355 : decode cL_texts 355 = .ok (.if_icmp .ne 100, 3) := by decide +kernel
theorem dL_texts_358 : decode cL_texts 358 = .ok (.aload_n 0, 1) := by decide +kernel
theorem dL_texts_359 : decode cL_texts 359 = .ok (.ldc2_w 171, 3) := by decide +kernel
theorem dL_texts_362 : decode cL_texts 362 = .ok (.iconst 3, 1) := by decide +kernel
theorem dL_texts_363 : decode cL_texts 363 = .ok (.invokestatic 123, 3) := by decide +kernel
theorem dL_texts_366 : decode cL_texts 366 = .ok (.iconst (-1), 1) := by decide +kernel
theorem dL_texts_367 : decode cL_texts 367 = .ok (.if_icmp .ne 88, 3) := by decide +kernel
theorem dL_texts_370 : decode cL_texts 370 = .ok (.aload_n 0, 1) := by decide +kernel
theorem dL_texts_371 : decode cL_texts 371 = .ok (.bipush 10, 2) := by decide +kernel
theorem dL_texts_373 : decode cL_texts 373 = .ok (.iconst 1, 1) := by decide +kernel
theorem dL_texts_374 : decode cL_texts 374 = .ok (.iconst 0, 1) := by decide +kernel
theorem dL_texts_375 : decode cL_texts 375 = .ok (.iconst 1, 1) := by decide +kernel
theorem dL_texts_376 : decode cL_texts 376 = .ok (.iconst 0, 1) := by decide +kernel
theorem dL_texts_377 : decode cL_texts 377 = .ok (.iconst 0, 1) := by decide +kernel
theorem dL_texts_378 : decode cL_texts 378 = .ok (.invokestatic 99, 3) := by decide +kernel
theorem dL_texts_381 : decode cL_texts 381 = .ok (.ldc 89, 2) := by decide +kernel
theorem dL_texts_383 : decode cL_texts 383 = .ok (.if_icmp .ne 72, 3) := by decide +kernel
theorem dL_texts_386 : decode cL_texts 386 = .ok (.aload_n 0, 1) := by decide +kernel
theorem dL_texts_387 : decode cL_texts 387 = .ok (.ldc2_w 167, 3) := by decide +kernel
theorem dL_texts_390 : decode cL_texts 390 = .ok (.iconst 2, 1) := by decide +kernel
theorem dL_texts_391 : decode cL_texts 391 = .ok (.invokestatic 123, 3) := by decide +kernel
theorem dL_texts_394 : decode cL_texts 394 = .ok (.iconst (-1), 1) := by decide +kernel
theorem dL_texts_395 : decode cL_texts 395 = .ok (.if_icmp .ne 60, 3) := by decide +kernel
theorem dL_texts_398 : decode cL_texts 398 = .ok (.aload_n 0, 1) := by decide +kernel
theorem dL_texts_399 : decode cL_texts 399 = .ok (.bipush 10, 2) := by decide +kernel
theorem dL_texts_401 : decode cL_texts 401 = .ok (.iconst 1, 1) := by decide +kernel
theorem dL_texts_402 : decode cL_texts 402 = .ok (.iconst 0, 1) := by decide +kernel
theorem dL_texts_403 : decode cL_texts 403 = .ok (.iconst 1, 1) := by decide +kernel
theorem dL_texts_404 : decode cL_texts 404 = .ok (.iconst 0, 1) := by decide +kernel
theorem dL_texts_405 : decode cL_texts 405 = .ok (.iconst 0, 1) := by decide +kernel
theorem dL_texts_406 : decode cL_texts 406 = .ok (.invokestatic 99, 3) := by decide +kernel
theorem dL_texts_409 : decode cL_texts 409 = .ok (.ldc 89, 2) := by decide +kernel
theorem dL_texts_411 : decode cL_texts 411 = .ok (.if_icmp .ne 44, 3) := by decide +kernel
theorem dL_texts_414 : decode cL_texts 414 = .ok (.aload_n 0, 1) := by decide +kernel
theorem dL_texts_415 : decode cL_texts 415 = .ok (.invokevirtual 105, 3) := by decide +kernel
theorem dL_texts_418 : decode cL_texts 418 = .ok (.iconst 2, 1) := by decide +kernel
theorem dL_texts_419 : decode cL_texts 419 = .ok (.if_icmp .ne 36, 3) := by decide +kernel
theorem dL_texts_422 : decode cL_texts 422 = .ok (.aload_n 0, 1) := by decide +kernel
theorem dL_texts_423 : decode cL_texts 423 = .ok (.iconst 0, 1) := by decide +kernel
theorem dL_texts_424 : decode cL_texts 424 = .ok (.bipush 21, 2) := by decide +kernel
theorem dL_texts_426 : decode cL_texts 426 = .ok (.invokestatic 118, 3) := by decide +kernel
theorem dL_texts_429 : decode cL_texts 429 = .ok (.ifCond .eq 26, 3) := by decide +kernel
theorem dL_texts_432 : decode cL_texts 432 = .ok (.aload_n 0, 1) := by decide +kernel
theorem dL_texts_433 : decode cL_texts 433 = .ok (.iconst 1, 1) := by decide +kernel
theorem dL_texts_434 : decode cL_texts 434 = .ok (.bipush (-21), 2) := by decide +kernel
theorem dL_texts_436 : decode cL_texts 436 = .ok (.invokestatic 118, 3) := by decide +kernel
theorem dL_texts_439 : decode cL_texts 439 = .ok (.ifCond .eq 16, 3) := by decide +kernel
theorem dL_texts_442 : decode cL_texts 442 = .ok (.aload_n 0, 1) := by decide +kernel
theorem dL_texts_443 : decode cL_texts 443 = .ok (.bipush 9, 2) := by decide +kernel
theorem dL_texts_445 : decode cL_texts 445 = .ok (.invokestatic 111, 3) := by decide +kernel
theorem dL_texts_448 : decode cL_texts 448 = .ok (.ifCond .eq 7, 3) := by decide +kernel
theorem dL_texts_451 : decode cL_texts 451 = .ok (.iconst 1, 1) := by decide +kernel
theorem dL_texts_452 : decode cL_texts 452 = .ok (.goto 4, 3) := by decide +kernel
theorem dL_texts_455 : decode cL_texts 455 = .ok (.iconst 0, 1) := by decide +kernel
theorem dL_texts_456 : decode cL_texts 456 = .ok (.ireturn, 1) := by decide +kernel
