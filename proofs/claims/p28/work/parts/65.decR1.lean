theorem dL_refuses_0 : decode cL_refuses 0 = .ok (.ldc 90, 2) := by decide +kernel
theorem dL_refuses_2 : decode cL_refuses 2 = .ok (.istore_n 2, 1) := by decide +kernel
theorem dL_refuses_3 : decode cL_refuses 3 = .ok (.aload_n 0, 1) := by decide +kernel
theorem dL_refuses_4 : decode cL_refuses 4 = .ok (.iconst 1, 1) := by decide +kernel
theorem dL_refuses_5 : decode cL_refuses 5 = .ok (.invokevirtual 60, 3) := by decide +kernel
theorem dL_refuses_8 : decode cL_refuses 8 = .ok (.istore_n 3, 1) := by decide +kernel
theorem dL_refuses_9 : decode cL_refuses 9 = .ok (.aload_n 0, 1) := by decide +kernel
theorem dL_refuses_10 : decode cL_refuses 10 = .ok (.iconst 1, 1) := by decide +kernel
theorem dL_refuses_11 : decode cL_refuses 11 = .ok (.invokevirtual 69, 3) := by decide +kernel
theorem dL_refuses_14 : decode cL_refuses 14 = .ok (.istore 4, 2) := by decide +kernel
theorem dL_refuses_16 : decode cL_refuses 16 = .ok (.aload_n 0, 1) := by decide +kernel
theorem dL_refuses_17 : decode cL_refuses 17 = .ok (.invokevirtual 91, 3) := by decide +kernel
theorem dL_refuses_20 : decode cL_refuses 20 = .ok (.istore 5, 2) := by decide +kernel
theorem dL_refuses_22 : decode cL_refuses 22 = .ok (.aload_n 0, 1) := by decide +kernel
theorem dL_refuses_23 : decode cL_refuses 23 = .ok (.invokevirtual 95, 3) := by decide +kernel
theorem dL_refuses_26 : decode cL_refuses 26 = .ok (.istore 6, 2) := by decide +kernel
theorem dL_refuses_28 : decode cL_refuses 28 = .ok (.iconst 0, 1) := by decide +kernel
theorem dL_refuses_29 : decode cL_refuses 29 = .ok (.istore 7, 2) := by decide +kernel
theorem dL_refuses_31 : decode cL_refuses 31 = .ok (.iload 7, 2) := by decide +kernel
theorem dL_refuses_33 : decode cL_refuses 33 = .ok (.iconst 4, 1) := by decide +kernel
theorem dL_refuses_34 : decode cL_refuses 34 = .ok (.if_icmp .ge 1165, 3) := by decide +kernel
theorem dL_refuses_37 : decode cL_refuses 37 = .ok (.iload 7, 2) := by decide +kernel
theorem dL_refuses_39 : decode cL_refuses 39 = .ok (.ifCond .ne 7, 3) := by decide +kernel
theorem dL_refuses_42 : decode cL_refuses 42 = .ok (.iconst (-1), 1) := by decide +kernel
theorem dL_refuses_43 : decode cL_refuses 43 = .ok (.goto 17, 3) := by decide +kernel
theorem dL_refuses_46 : decode cL_refuses 46 = .ok (.iload 7, 2) := by decide +kernel
theorem dL_refuses_48 : decode cL_refuses 48 = .ok (.iconst 2, 1) := by decide +kernel
theorem dL_refuses_49 : decode cL_refuses 49 = .ok (.if_icmp .ne 7, 3) := by decide +kernel
theorem dL_refuses_52 : decode cL_refuses 52 = .ok (.iload_n 2, 1) := by decide +kernel
theorem dL_refuses_53 : decode cL_refuses 53 = .ok (.goto 7, 3) := by decide +kernel
theorem dL_refuses_56 : decode cL_refuses 56 = .ok (.iload_n 2, 1) := by decide +kernel
theorem dL_refuses_57 : decode cL_refuses 57 = .ok (.ineg, 1) := by decide +kernel
theorem dL_refuses_58 : decode cL_refuses 58 = .ok (.iconst 1, 1) := by decide +kernel
theorem dL_refuses_59 : decode cL_refuses 59 = .ok (.isub, 1) := by decide +kernel
theorem dL_refuses_60 : decode cL_refuses 60 = .ok (.istore 8, 2) := by decide +kernel
theorem dL_refuses_62 : decode cL_refuses 62 = .ok (.iload 7, 2) := by decide +kernel
theorem dL_refuses_64 : decode cL_refuses 64 = .ok (.iconst 1, 1) := by decide +kernel
theorem dL_refuses_65 : decode cL_refuses 65 = .ok (.if_icmp .ne 8, 3) := by decide +kernel
theorem dL_refuses_68 : decode cL_refuses 68 = .ok (.bipush 6, 2) := by decide +kernel
theorem dL_refuses_70 : decode cL_refuses 70 = .ok (.goto 5, 3) := by decide +kernel
theorem dL_refuses_73 : decode cL_refuses 73 = .ok (.iload 8, 2) := by decide +kernel
theorem dL_refuses_75 : decode cL_refuses 75 = .ok (.istore 9, 2) := by decide +kernel
theorem dL_refuses_77 : decode cL_refuses 77 = .ok (.iload 7, 2) := by decide +kernel
theorem dL_refuses_79 : decode cL_refuses 79 = .ok (.iconst 1, 1) := by decide +kernel
theorem dL_refuses_80 : decode cL_refuses 80 = .ok (.if_icmp .ne 7, 3) := by decide +kernel
theorem dL_refuses_83 : decode cL_refuses 83 = .ok (.iload_n 1, 1) := by decide +kernel
theorem dL_refuses_84 : decode cL_refuses 84 = .ok (.goto 5, 3) := by decide +kernel
theorem dL_refuses_87 : decode cL_refuses 87 = .ok (.iload 8, 2) := by decide +kernel
theorem dL_refuses_89 : decode cL_refuses 89 = .ok (.istore 10, 2) := by decide +kernel
theorem dL_refuses_91 : decode cL_refuses 91 = .ok (.iload 7, 2) := by decide +kernel
theorem dL_refuses_93 : decode cL_refuses 93 = .ok (.ifCond .ne 7, 3) := by decide +kernel
theorem dL_refuses_96 : decode cL_refuses 96 = .ok (.iconst 0, 1) := by decide +kernel
theorem dL_refuses_97 : decode cL_refuses 97 = .ok (.goto 17, 3) := by decide +kernel
theorem dL_refuses_100 : decode cL_refuses 100 = .ok (.iload 7, 2) := by decide +kernel
theorem dL_refuses_102 : decode cL_refuses 102 = .ok (.iconst 1, 1) := by decide +kernel
theorem dL_refuses_103 : decode cL_refuses 103 = .ok (.if_icmp .ne 9, 3) := by decide +kernel
theorem dL_refuses_106 : decode cL_refuses 106 = .ok (.sipush 10000, 3) := by decide +kernel
theorem dL_refuses_109 : decode cL_refuses 109 = .ok (.goto 5, 3) := by decide +kernel
theorem dL_refuses_112 : decode cL_refuses 112 = .ok (.iload 8, 2) := by decide +kernel
theorem dL_refuses_114 : decode cL_refuses 114 = .ok (.istore 11, 2) := by decide +kernel
theorem dL_refuses_116 : decode cL_refuses 116 = .ok (.iload 7, 2) := by decide +kernel
theorem dL_refuses_118 : decode cL_refuses 118 = .ok (.ifCond .ne 7, 3) := by decide +kernel
theorem dL_refuses_121 : decode cL_refuses 121 = .ok (.iconst 0, 1) := by decide +kernel
theorem dL_refuses_122 : decode cL_refuses 122 = .ok (.goto 16, 3) := by decide +kernel
theorem dL_refuses_125 : decode cL_refuses 125 = .ok (.iload 7, 2) := by decide +kernel
theorem dL_refuses_127 : decode cL_refuses 127 = .ok (.iconst 1, 1) := by decide +kernel
theorem dL_refuses_128 : decode cL_refuses 128 = .ok (.if_icmp .ne 8, 3) := by decide +kernel
theorem dL_refuses_131 : decode cL_refuses 131 = .ok (.ldc 98, 2) := by decide +kernel
theorem dL_refuses_133 : decode cL_refuses 133 = .ok (.goto 5, 3) := by decide +kernel
theorem dL_refuses_136 : decode cL_refuses 136 = .ok (.iload 8, 2) := by decide +kernel
theorem dL_refuses_138 : decode cL_refuses 138 = .ok (.istore 12, 2) := by decide +kernel
theorem dL_refuses_140 : decode cL_refuses 140 = .ok (.iload 7, 2) := by decide +kernel
theorem dL_refuses_142 : decode cL_refuses 142 = .ok (.ifCond .ne 7, 3) := by decide +kernel
theorem dL_refuses_145 : decode cL_refuses 145 = .ok (.iconst 1, 1) := by decide +kernel
theorem dL_refuses_146 : decode cL_refuses 146 = .ok (.goto 16, 3) := by decide +kernel
theorem dL_refuses_149 : decode cL_refuses 149 = .ok (.iload 7, 2) := by decide +kernel
theorem dL_refuses_151 : decode cL_refuses 151 = .ok (.iconst 1, 1) := by decide +kernel
theorem dL_refuses_152 : decode cL_refuses 152 = .ok (.if_icmp .ne 8, 3) := by decide +kernel
theorem dL_refuses_155 : decode cL_refuses 155 = .ok (.bipush 20, 2) := by decide +kernel
theorem dL_refuses_157 : decode cL_refuses 157 = .ok (.goto 5, 3) := by decide +kernel
theorem dL_refuses_160 : decode cL_refuses 160 = .ok (.iload 8, 2) := by decide +kernel
theorem dL_refuses_162 : decode cL_refuses 162 = .ok (.istore 13, 2) := by decide +kernel
theorem dL_refuses_164 : decode cL_refuses 164 = .ok (.aload_n 0, 1) := by decide +kernel
theorem dL_refuses_165 : decode cL_refuses 165 = .ok (.iconst 0, 1) := by decide +kernel
theorem dL_refuses_166 : decode cL_refuses 166 = .ok (.iload 9, 2) := by decide +kernel
theorem dL_refuses_168 : decode cL_refuses 168 = .ok (.iconst 0, 1) := by decide +kernel
theorem dL_refuses_169 : decode cL_refuses 169 = .ok (.iconst 0, 1) := by decide +kernel
theorem dL_refuses_170 : decode cL_refuses 170 = .ok (.iconst 0, 1) := by decide +kernel
theorem dL_refuses_171 : decode cL_refuses 171 = .ok (.iconst 0, 1) := by decide +kernel
theorem dL_refuses_172 : decode cL_refuses 172 = .ok (.invokestatic 99, 3) := by decide +kernel
theorem dL_refuses_175 : decode cL_refuses 175 = .ok (.ldc 83, 2) := by decide +kernel
theorem dL_refuses_177 : decode cL_refuses 177 = .ok (.if_icmp .ne 326, 3) := by decide +kernel
theorem dL_refuses_180 : decode cL_refuses 180 = .ok (.aload_n 0, 1) := by decide +kernel
theorem dL_refuses_181 : decode cL_refuses 181 = .ok (.iconst 0, 1) := by decide +kernel
theorem dL_refuses_182 : decode cL_refuses 182 = .ok (.iconst 0, 1) := by decide +kernel
theorem dL_refuses_183 : decode cL_refuses 183 = .ok (.iload 9, 2) := by decide +kernel
theorem dL_refuses_185 : decode cL_refuses 185 = .ok (.iconst 0, 1) := by decide +kernel
theorem dL_refuses_186 : decode cL_refuses 186 = .ok (.iconst 0, 1) := by decide +kernel
theorem dL_refuses_187 : decode cL_refuses 187 = .ok (.iconst 0, 1) := by decide +kernel
theorem dL_refuses_188 : decode cL_refuses 188 = .ok (.invokestatic 99, 3) := by decide +kernel
theorem dL_refuses_191 : decode cL_refuses 191 = .ok (.ldc 83, 2) := by decide +kernel
theorem dL_refuses_193 : decode cL_refuses 193 = .ok (.if_icmp .ne 310, 3) := by decide +kernel
theorem dL_refuses_196 : decode cL_refuses 196 = .ok (.aload_n 0, 1) := by decide +kernel
theorem dL_refuses_197 : decode cL_refuses 197 = .ok (.iconst 0, 1) := by decide +kernel
theorem dL_refuses_198 : decode cL_refuses 198 = .ok (.iconst 0, 1) := by decide +kernel
theorem dL_refuses_199 : decode cL_refuses 199 = .ok (.iconst 0, 1) := by decide +kernel
theorem dL_refuses_200 : decode cL_refuses 200 = .ok (.iload 7, 2) := by decide +kernel
theorem dL_refuses_202 : decode cL_refuses 202 = .ok (.iconst 1, 1) := by decide +kernel
theorem dL_refuses_203 : decode cL_refuses 203 = .ok (.if_icmp .ne 8, 3) := by decide +kernel
theorem dL_refuses_206 : decode cL_refuses 206 = .ok (.bipush 8, 2) := by decide +kernel
theorem dL_refuses_208 : decode cL_refuses 208 = .ok (.goto 5, 3) := by decide +kernel
theorem dL_refuses_211 : decode cL_refuses 211 = .ok (.iload 8, 2) := by decide +kernel
theorem dL_refuses_213 : decode cL_refuses 213 = .ok (.iconst 0, 1) := by decide +kernel
theorem dL_refuses_214 : decode cL_refuses 214 = .ok (.iconst 0, 1) := by decide +kernel
theorem dL_refuses_215 : decode cL_refuses 215 = .ok (.invokestatic 99, 3) := by decide +kernel
theorem dL_refuses_218 : decode cL_refuses 218 = .ok (.ldc 83, 2) := by decide +kernel
theorem dL_refuses_220 : decode cL_refuses 220 = .ok (.if_icmp .ne 283, 3) := by decide +kernel
theorem dL_refuses_223 : decode cL_refuses 223 = .ok (.aload_n 0, 1) := by decide +kernel
theorem dL_refuses_224 : decode cL_refuses 224 = .ok (.iconst 0, 1) := by decide +kernel
theorem dL_refuses_225 : decode cL_refuses 225 = .ok (.iconst 3, 1) := by decide +kernel
theorem dL_refuses_226 : decode cL_refuses 226 = .ok (.iconst 3, 1) := by decide +kernel
theorem dL_refuses_227 : decode cL_refuses 227 = .ok (.iconst 0, 1) := by decide +kernel
theorem dL_refuses_228 : decode cL_refuses 228 = .ok (.iconst 1, 1) := by decide +kernel
theorem dL_refuses_229 : decode cL_refuses 229 = .ok (.bipush 7, 2) := by decide +kernel
theorem dL_refuses_231 : decode cL_refuses 231 = .ok (.invokestatic 99, 3) := by decide +kernel
theorem dL_refuses_234 : decode cL_refuses 234 = .ok (.ldc 86, 2) := by decide +kernel
theorem dL_refuses_236 : decode cL_refuses 236 = .ok (.if_icmp .ne 267, 3) := by decide +kernel
theorem dL_refuses_239 : decode cL_refuses 239 = .ok (.aload_n 0, 1) := by decide +kernel
theorem dL_refuses_240 : decode cL_refuses 240 = .ok (.iconst 0, 1) := by decide +kernel
theorem dL_refuses_241 : decode cL_refuses 241 = .ok (.iconst 0, 1) := by decide +kernel
theorem dL_refuses_242 : decode cL_refuses 242 = .ok (.iconst 1, 1) := by decide +kernel
theorem dL_refuses_243 : decode cL_refuses 243 = .ok (.iconst 0, 1) := by decide +kernel
theorem dL_refuses_244 : decode cL_refuses 244 = .ok (.iload 11, 2) := by decide +kernel
theorem dL_refuses_246 : decode cL_refuses 246 = .ok (.bipush 7, 2) := by decide +kernel
theorem dL_refuses_248 : decode cL_refuses 248 = .ok (.invokestatic 99, 3) := by decide +kernel
theorem dL_refuses_251 : decode cL_refuses 251 = .ok (.ldc 86, 2) := by decide +kernel
theorem dL_refuses_253 : decode cL_refuses 253 = .ok (.if_icmp .ne 250, 3) := by decide +kernel
theorem dL_refuses_256 : decode cL_refuses 256 = .ok (.aload_n 0, 1) := by decide +kernel
theorem dL_refuses_257 : decode cL_refuses 257 = .ok (.iconst 0, 1) := by decide +kernel
theorem dL_refuses_258 : decode cL_refuses 258 = .ok (.iconst 0, 1) := by decide +kernel
theorem dL_refuses_259 : decode cL_refuses 259 = .ok (.iconst 1, 1) := by decide +kernel
theorem dL_refuses_260 : decode cL_refuses 260 = .ok (.iconst 0, 1) := by decide +kernel
theorem dL_refuses_261 : decode cL_refuses 261 = .ok (.iconst 1, 1) := by decide +kernel
theorem dL_refuses_262 : decode cL_refuses 262 = .ok (.iload 13, 2) := by decide +kernel
theorem dL_refuses_264 : decode cL_refuses 264 = .ok (.invokestatic 99, 3) := by decide +kernel
theorem dL_refuses_267 : decode cL_refuses 267 = .ok (.ldc 86, 2) := by decide +kernel
theorem dL_refuses_269 : decode cL_refuses 269 = .ok (.if_icmp .ne 234, 3) := by decide +kernel
theorem dL_refuses_272 : decode cL_refuses 272 = .ok (.aload_n 0, 1) := by decide +kernel
theorem dL_refuses_273 : decode cL_refuses 273 = .ok (.iconst 1, 1) := by decide +kernel
theorem dL_refuses_274 : decode cL_refuses 274 = .ok (.iload 10, 2) := by decide +kernel
theorem dL_refuses_276 : decode cL_refuses 276 = .ok (.iconst 0, 1) := by decide +kernel
theorem dL_refuses_277 : decode cL_refuses 277 = .ok (.iconst 0, 1) := by decide +kernel
theorem dL_refuses_278 : decode cL_refuses 278 = .ok (.iconst 0, 1) := by decide +kernel
theorem dL_refuses_279 : decode cL_refuses 279 = .ok (.iconst 0, 1) := by decide +kernel
theorem dL_refuses_280 : decode cL_refuses 280 = .ok (.invokestatic 99, 3) := by decide +kernel
theorem dL_refuses_283 : decode cL_refuses 283 = .ok (.ldc 83, 2) := by decide +kernel
theorem dL_refuses_285 : decode cL_refuses 285 = .ok (.if_icmp .ne 218, 3) := by decide +kernel
theorem dL_refuses_288 : decode cL_refuses 288 = .ok (.aload_n 0, 1) := by decide +kernel
theorem dL_refuses_289 : decode cL_refuses 289 = .ok (.iconst 2, 1) := by decide +kernel
theorem dL_refuses_290 : decode cL_refuses 290 = .ok (.iload 10, 2) := by decide +kernel
theorem dL_refuses_292 : decode cL_refuses 292 = .ok (.iconst 0, 1) := by decide +kernel
theorem dL_refuses_293 : decode cL_refuses 293 = .ok (.iconst 0, 1) := by decide +kernel
theorem dL_refuses_294 : decode cL_refuses 294 = .ok (.iconst 0, 1) := by decide +kernel
theorem dL_refuses_295 : decode cL_refuses 295 = .ok (.iconst 0, 1) := by decide +kernel
theorem dL_refuses_296 : decode cL_refuses 296 = .ok (.invokestatic 99, 3) := by decide +kernel
theorem dL_refuses_299 : decode cL_refuses 299 = .ok (.ldc 83, 2) := by decide +kernel
theorem dL_refuses_301 : decode cL_refuses 301 = .ok (.if_icmp .ne 202, 3) := by decide +kernel
theorem dL_refuses_304 : decode cL_refuses 304 = .ok (.aload_n 0, 1) := by decide +kernel
theorem dL_refuses_305 : decode cL_refuses 305 = .ok (.iconst 3, 1) := by decide +kernel
theorem dL_refuses_306 : decode cL_refuses 306 = .ok (.iload 10, 2) := by decide +kernel
theorem dL_refuses_308 : decode cL_refuses 308 = .ok (.iconst 0, 1) := by decide +kernel
theorem dL_refuses_309 : decode cL_refuses 309 = .ok (.iconst 0, 1) := by decide +kernel
theorem dL_refuses_310 : decode cL_refuses 310 = .ok (.iconst 0, 1) := by decide +kernel
theorem dL_refuses_311 : decode cL_refuses 311 = .ok (.iconst 0, 1) := by decide +kernel
theorem dL_refuses_312 : decode cL_refuses 312 = .ok (.invokestatic 99, 3) := by decide +kernel
theorem dL_refuses_315 : decode cL_refuses 315 = .ok (.ldc 83, 2) := by decide +kernel
theorem dL_refuses_317 : decode cL_refuses 317 = .ok (.if_icmp .ne 186, 3) := by decide +kernel
theorem dL_refuses_320 : decode cL_refuses 320 = .ok (.aload_n 0, 1) := by decide +kernel
theorem dL_refuses_321 : decode cL_refuses 321 = .ok (.iconst 4, 1) := by decide +kernel
theorem dL_refuses_322 : decode cL_refuses 322 = .ok (.iload 10, 2) := by decide +kernel
theorem dL_refuses_324 : decode cL_refuses 324 = .ok (.iconst 0, 1) := by decide +kernel
theorem dL_refuses_325 : decode cL_refuses 325 = .ok (.iconst 0, 1) := by decide +kernel
theorem dL_refuses_326 : decode cL_refuses 326 = .ok (.iconst 0, 1) := by decide +kernel
theorem dL_refuses_327 : decode cL_refuses 327 = .ok (.iconst 0, 1) := by decide +kernel
theorem dL_refuses_328 : decode cL_refuses 328 = .ok (.invokestatic 99, 3) := by decide +kernel
theorem dL_refuses_331 : decode cL_refuses 331 = .ok (.ldc 83, 2) := by decide +kernel
theorem dL_refuses_333 : decode cL_refuses 333 = .ok (.if_icmp .ne 170, 3) := by decide +kernel
theorem dL_refuses_336 : decode cL_refuses 336 = .ok (.aload_n 0, 1) := by decide +kernel
theorem dL_refuses_337 : decode cL_refuses 337 = .ok (.iconst 4, 1) := by decide +kernel
theorem dL_refuses_338 : decode cL_refuses 338 = .ok (.iconst 0, 1) := by decide +kernel
theorem dL_refuses_339 : decode cL_refuses 339 = .ok (.iload 7, 2) := by decide +kernel
theorem dL_refuses_341 : decode cL_refuses 341 = .ok (.iconst 1, 1) := by decide +kernel
theorem dL_refuses_342 : decode cL_refuses 342 = .ok (.if_icmp .ne 7, 3) := by decide +kernel
theorem dL_refuses_345 : decode cL_refuses 345 = .ok (.iconst 3, 1) := by decide +kernel
theorem dL_refuses_346 : decode cL_refuses 346 = .ok (.goto 5, 3) := by decide +kernel
theorem dL_refuses_349 : decode cL_refuses 349 = .ok (.iload 8, 2) := by decide +kernel
theorem dL_refuses_351 : decode cL_refuses 351 = .ok (.iconst 0, 1) := by decide +kernel
theorem dL_refuses_352 : decode cL_refuses 352 = .ok (.iconst 0, 1) := by decide +kernel
theorem dL_refuses_353 : decode cL_refuses 353 = .ok (.iconst 0, 1) := by decide +kernel
theorem dL_refuses_354 : decode cL_refuses 354 = .ok (.invokestatic 99, 3) := by decide +kernel
theorem dL_refuses_357 : decode cL_refuses 357 = .ok (.ldc 83, 2) := by decide +kernel
theorem dL_refuses_359 : decode cL_refuses 359 = .ok (.if_icmp .ne 144, 3) := by decide +kernel
theorem dL_refuses_362 : decode cL_refuses 362 = .ok (.aload_n 0, 1) := by decide +kernel
theorem dL_refuses_363 : decode cL_refuses 363 = .ok (.iconst 5, 1) := by decide +kernel
theorem dL_refuses_364 : decode cL_refuses 364 = .ok (.iload 10, 2) := by decide +kernel
theorem dL_refuses_366 : decode cL_refuses 366 = .ok (.iconst 0, 1) := by decide +kernel
theorem dL_refuses_367 : decode cL_refuses 367 = .ok (.iconst 0, 1) := by decide +kernel
theorem dL_refuses_368 : decode cL_refuses 368 = .ok (.iconst 0, 1) := by decide +kernel
theorem dL_refuses_369 : decode cL_refuses 369 = .ok (.iconst 0, 1) := by decide +kernel
theorem dL_refuses_370 : decode cL_refuses 370 = .ok (.invokestatic 99, 3) := by decide +kernel
theorem dL_refuses_373 : decode cL_refuses 373 = .ok (.ldc 83, 2) := by decide +kernel
theorem dL_refuses_375 : decode cL_refuses 375 = .ok (.if_icmp .ne 128, 3) := by decide +kernel
theorem dL_refuses_378 : decode cL_refuses 378 = .ok (.aload_n 0, 1) := by decide +kernel
theorem dL_refuses_379 : decode cL_refuses 379 = .ok (.iconst 5, 1) := by decide +kernel
theorem dL_refuses_380 : decode cL_refuses 380 = .ok (.iconst 0, 1) := by decide +kernel
theorem dL_refuses_381 : decode cL_refuses 381 = .ok (.iload 7, 2) := by decide +kernel
theorem dL_refuses_383 : decode cL_refuses 383 = .ok (.iconst 1, 1) := by decide +kernel
theorem dL_refuses_384 : decode cL_refuses 384 = .ok (.if_icmp .ne 7, 3) := by decide +kernel
theorem dL_refuses_387 : decode cL_refuses 387 = .ok (.iconst 3, 1) := by decide +kernel
theorem dL_refuses_388 : decode cL_refuses 388 = .ok (.goto 5, 3) := by decide +kernel
theorem dL_refuses_391 : decode cL_refuses 391 = .ok (.iload 8, 2) := by decide +kernel
theorem dL_refuses_393 : decode cL_refuses 393 = .ok (.iconst 0, 1) := by decide +kernel
theorem dL_refuses_394 : decode cL_refuses 394 = .ok (.iconst 0, 1) := by decide +kernel
theorem dL_refuses_395 : decode cL_refuses 395 = .ok (.iconst 0, 1) := by decide +kernel
theorem dL_refuses_396 : decode cL_refuses 396 = .ok (.invokestatic 99, 3) := by decide +kernel
theorem dL_refuses_399 : decode cL_refuses 399 = .ok (.ldc 83, 2) := by decide +kernel
theorem dL_refuses_401 : decode cL_refuses 401 = .ok (.if_icmp .ne 102, 3) := by decide +kernel
theorem dL_refuses_404 : decode cL_refuses 404 = .ok (.aload_n 0, 1) := by decide +kernel
theorem dL_refuses_405 : decode cL_refuses 405 = .ok (.bipush 6, 2) := by decide +kernel
theorem dL_refuses_407 : decode cL_refuses 407 = .ok (.iload 10, 2) := by decide +kernel
theorem dL_refuses_409 : decode cL_refuses 409 = .ok (.iconst 0, 1) := by decide +kernel
theorem dL_refuses_410 : decode cL_refuses 410 = .ok (.iconst 0, 1) := by decide +kernel
theorem dL_refuses_411 : decode cL_refuses 411 = .ok (.iconst 0, 1) := by decide +kernel
theorem dL_refuses_412 : decode cL_refuses 412 = .ok (.iconst 0, 1) := by decide +kernel
theorem dL_refuses_413 : decode cL_refuses 413 = .ok (.invokestatic 99, 3) := by decide +kernel
theorem dL_refuses_416 : decode cL_refuses 416 = .ok (.ldc 83, 2) := by decide +kernel
theorem dL_refuses_418 : decode cL_refuses 418 = .ok (.if_icmp .ne 85, 3) := by decide +kernel
theorem dL_refuses_421 : decode cL_refuses 421 = .ok (.aload_n 0, 1) := by decide +kernel
theorem dL_refuses_422 : decode cL_refuses 422 = .ok (.bipush 6, 2) := by decide +kernel
theorem dL_refuses_424 : decode cL_refuses 424 = .ok (.iconst 0, 1) := by decide +kernel
theorem dL_refuses_425 : decode cL_refuses 425 = .ok (.iload 7, 2) := by decide +kernel
theorem dL_refuses_427 : decode cL_refuses 427 = .ok (.iconst 1, 1) := by decide +kernel
theorem dL_refuses_428 : decode cL_refuses 428 = .ok (.if_icmp .ne 7, 3) := by decide +kernel
theorem dL_refuses_431 : decode cL_refuses 431 = .ok (.iconst 3, 1) := by decide +kernel
theorem dL_refuses_432 : decode cL_refuses 432 = .ok (.goto 5, 3) := by decide +kernel
theorem dL_refuses_435 : decode cL_refuses 435 = .ok (.iload 8, 2) := by decide +kernel
theorem dL_refuses_437 : decode cL_refuses 437 = .ok (.iconst 0, 1) := by decide +kernel
theorem dL_refuses_438 : decode cL_refuses 438 = .ok (.iconst 0, 1) := by decide +kernel
theorem dL_refuses_439 : decode cL_refuses 439 = .ok (.iconst 0, 1) := by decide +kernel
theorem dL_refuses_440 : decode cL_refuses 440 = .ok (.invokestatic 99, 3) := by decide +kernel
theorem dL_refuses_443 : decode cL_refuses 443 = .ok (.ldc 83, 2) := by decide +kernel
theorem dL_refuses_445 : decode cL_refuses 445 = .ok (.if_icmp .ne 58, 3) := by decide +kernel
theorem dL_refuses_448 : decode cL_refuses 448 = .ok (.aload_n 0, 1) := by decide +kernel
theorem dL_refuses_449 : decode cL_refuses 449 = .ok (.bipush 7, 2) := by decide +kernel
theorem dL_refuses_451 : decode cL_refuses 451 = .ok (.iload 10, 2) := by decide +kernel
theorem dL_refuses_453 : decode cL_refuses 453 = .ok (.iconst 0, 1) := by decide +kernel
theorem dL_refuses_454 : decode cL_refuses 454 = .ok (.iconst 0, 1) := by decide +kernel
theorem dL_refuses_455 : decode cL_refuses 455 = .ok (.iconst 0, 1) := by decide +kernel
theorem dL_refuses_456 : decode cL_refuses 456 = .ok (.iconst 0, 1) := by decide +kernel
theorem dL_refuses_457 : decode cL_refuses 457 = .ok (.invokestatic 99, 3) := by decide +kernel
theorem dL_refuses_460 : decode cL_refuses 460 = .ok (.ldc 83, 2) := by decide +kernel
theorem dL_refuses_462 : decode cL_refuses 462 = .ok (.if_icmp .ne 41, 3) := by decide +kernel
theorem dL_refuses_465 : decode cL_refuses 465 = .ok (.aload_n 0, 1) := by decide +kernel
theorem dL_refuses_466 : decode cL_refuses 466 = .ok (.bipush 7, 2) := by decide +kernel
theorem dL_refuses_468 : decode cL_refuses 468 = .ok (.iconst 0, 1) := by decide +kernel
theorem dL_refuses_469 : decode cL_refuses 469 = .ok (.iload 9, 2) := by decide +kernel
theorem dL_refuses_471 : decode cL_refuses 471 = .ok (.iconst 0, 1) := by decide +kernel
theorem dL_refuses_472 : decode cL_refuses 472 = .ok (.iconst 0, 1) := by decide +kernel
theorem dL_refuses_473 : decode cL_refuses 473 = .ok (.iconst 0, 1) := by decide +kernel
theorem dL_refuses_474 : decode cL_refuses 474 = .ok (.invokestatic 99, 3) := by decide +kernel
theorem dL_refuses_477 : decode cL_refuses 477 = .ok (.ldc 83, 2) := by decide +kernel
theorem dL_refuses_479 : decode cL_refuses 479 = .ok (.if_icmp .ne 24, 3) := by decide +kernel
theorem dL_refuses_482 : decode cL_refuses 482 = .ok (.aload_n 0, 1) := by decide +kernel
theorem dL_refuses_483 : decode cL_refuses 483 = .ok (.bipush 8, 2) := by decide +kernel
theorem dL_refuses_485 : decode cL_refuses 485 = .ok (.iload 10, 2) := by decide +kernel
theorem dL_refuses_487 : decode cL_refuses 487 = .ok (.iconst 0, 1) := by decide +kernel
theorem dL_refuses_488 : decode cL_refuses 488 = .ok (.iconst 0, 1) := by decide +kernel
theorem dL_refuses_489 : decode cL_refuses 489 = .ok (.iconst 0, 1) := by decide +kernel
theorem dL_refuses_490 : decode cL_refuses 490 = .ok (.iconst 0, 1) := by decide +kernel
theorem dL_refuses_491 : decode cL_refuses 491 = .ok (.invokestatic 99, 3) := by decide +kernel
theorem dL_refuses_494 : decode cL_refuses 494 = .ok (.ldc 83, 2) := by decide +kernel
theorem dL_refuses_496 : decode cL_refuses 496 = .ok (.if_icmp .ne 7, 3) := by decide +kernel
theorem dL_refuses_499 : decode cL_refuses 499 = .ok (.iconst 1, 1) := by decide +kernel
theorem dL_refuses_500 : decode cL_refuses 500 = .ok (.goto 4, 3) := by decide +kernel
theorem dL_refuses_503 : decode cL_refuses 503 = .ok (.iconst 0, 1) := by decide +kernel
theorem dL_refuses_504 : decode cL_refuses 504 = .ok (.istore 14, 2) := by decide +kernel
theorem dL_refuses_506 : decode cL_refuses 506 = .ok (.iload 14, 2) := by decide +kernel
theorem dL_refuses_508 : decode cL_refuses 508 = .ok (.ifCond .eq 476, 3) := by decide +kernel
theorem dL_refuses_511 : decode cL_refuses 511 = .ok (.aload_n 0, 1) := by decide +kernel
theorem dL_refuses_512 : decode cL_refuses 512 = .ok (.bipush 9, 2) := by decide +kernel
theorem dL_refuses_514 : decode cL_refuses 514 = .ok (.iload 7, 2) := by decide +kernel
theorem dL_refuses_516 : decode cL_refuses 516 = .ok (.ifCond .ne 8, 3) := by decide +kernel
theorem dL_refuses_519 : decode cL_refuses 519 = .ok (.bipush 31, 2) := by decide +kernel
theorem dL_refuses_521 : decode cL_refuses 521 = .ok (.goto 16, 3) := by decide +kernel
theorem dL_refuses_524 : decode cL_refuses 524 = .ok (.iload 7, 2) := by decide +kernel
theorem dL_refuses_526 : decode cL_refuses 526 = .ok (.iconst 1, 1) := by decide +kernel
theorem dL_refuses_527 : decode cL_refuses 527 = .ok (.if_icmp .ne 8, 3) := by decide +kernel
theorem dL_refuses_530 : decode cL_refuses 530 = .ok (.bipush 127, 2) := by decide +kernel
theorem dL_refuses_532 : decode cL_refuses 532 = .ok (.goto 5, 3) := by decide +kernel
theorem dL_refuses_535 : decode cL_refuses 535 = .ok (.iload 8, 2) := by decide +kernel
theorem dL_refuses_537 : decode cL_refuses 537 = .ok (.iconst 0, 1) := by decide +kernel
theorem dL_refuses_538 : decode cL_refuses 538 = .ok (.iconst 0, 1) := by decide +kernel
theorem dL_refuses_539 : decode cL_refuses 539 = .ok (.iconst 0, 1) := by decide +kernel
theorem dL_refuses_540 : decode cL_refuses 540 = .ok (.iconst 0, 1) := by decide +kernel
theorem dL_refuses_541 : decode cL_refuses 541 = .ok (.invokestatic 99, 3) := by decide +kernel
theorem dL_refuses_544 : decode cL_refuses 544 = .ok (.ldc 86, 2) := by decide +kernel
theorem dL_refuses_546 : decode cL_refuses 546 = .ok (.if_icmp .ne 438, 3) := by decide +kernel
theorem dL_refuses_549 : decode cL_refuses 549 = .ok (.aload_n 0, 1) := by decide +kernel
theorem dL_refuses_550 : decode cL_refuses 550 = .ok (.bipush 10, 2) := by decide +kernel
theorem dL_refuses_552 : decode cL_refuses 552 = .ok (.iload 9, 2) := by decide +kernel
theorem dL_refuses_554 : decode cL_refuses 554 = .ok (.iconst 0, 1) := by decide +kernel
theorem dL_refuses_555 : decode cL_refuses 555 = .ok (.iconst 0, 1) := by decide +kernel
theorem dL_refuses_556 : decode cL_refuses 556 = .ok (.iconst 0, 1) := by decide +kernel
theorem dL_refuses_557 : decode cL_refuses 557 = .ok (.iconst 0, 1) := by decide +kernel
theorem dL_refuses_558 : decode cL_refuses 558 = .ok (.invokestatic 99, 3) := by decide +kernel
theorem dL_refuses_561 : decode cL_refuses 561 = .ok (.ldc 83, 2) := by decide +kernel
theorem dL_refuses_563 : decode cL_refuses 563 = .ok (.if_icmp .ne 421, 3) := by decide +kernel
theorem dL_refuses_566 : decode cL_refuses 566 = .ok (.aload_n 0, 1) := by decide +kernel
theorem dL_refuses_567 : decode cL_refuses 567 = .ok (.bipush 10, 2) := by decide +kernel
theorem dL_refuses_569 : decode cL_refuses 569 = .ok (.iconst 0, 1) := by decide +kernel
theorem dL_refuses_570 : decode cL_refuses 570 = .ok (.iload 9, 2) := by decide +kernel
theorem dL_refuses_572 : decode cL_refuses 572 = .ok (.iconst 0, 1) := by decide +kernel
theorem dL_refuses_573 : decode cL_refuses 573 = .ok (.iconst 0, 1) := by decide +kernel
theorem dL_refuses_574 : decode cL_refuses 574 = .ok (.iconst 0, 1) := by decide +kernel
theorem dL_refuses_575 : decode cL_refuses 575 = .ok (.invokestatic 99, 3) := by decide +kernel
theorem dL_refuses_578 : decode cL_refuses 578 = .ok (.ldc 83, 2) := by decide +kernel
theorem dL_refuses_580 : decode cL_refuses 580 = .ok (.if_icmp .ne 404, 3) := by decide +kernel
theorem dL_refuses_583 : decode cL_refuses 583 = .ok (.aload_n 0, 1) := by decide +kernel
theorem dL_refuses_584 : decode cL_refuses 584 = .ok (.bipush 10, 2) := by decide +kernel
theorem dL_refuses_586 : decode cL_refuses 586 = .ok (.iconst 0, 1) := by decide +kernel
theorem dL_refuses_587 : decode cL_refuses 587 = .ok (.iconst 1, 1) := by decide +kernel
theorem dL_refuses_588 : decode cL_refuses 588 = .ok (.iload 12, 2) := by decide +kernel
theorem dL_refuses_590 : decode cL_refuses 590 = .ok (.iconst 0, 1) := by decide +kernel
theorem dL_refuses_591 : decode cL_refuses 591 = .ok (.iconst 0, 1) := by decide +kernel
theorem dL_refuses_592 : decode cL_refuses 592 = .ok (.invokestatic 99, 3) := by decide +kernel
theorem dL_refuses_595 : decode cL_refuses 595 = .ok (.ldc 86, 2) := by decide +kernel
theorem dL_refuses_597 : decode cL_refuses 597 = .ok (.if_icmp .ne 387, 3) := by decide +kernel
theorem dL_refuses_600 : decode cL_refuses 600 = .ok (.aload_n 0, 1) := by decide +kernel
theorem dL_refuses_601 : decode cL_refuses 601 = .ok (.bipush 10, 2) := by decide +kernel
theorem dL_refuses_603 : decode cL_refuses 603 = .ok (.iconst 2, 1) := by decide +kernel
theorem dL_refuses_604 : decode cL_refuses 604 = .ok (.iconst 2, 1) := by decide +kernel
theorem dL_refuses_605 : decode cL_refuses 605 = .ok (.iconst 5, 1) := by decide +kernel
theorem dL_refuses_606 : decode cL_refuses 606 = .ok (.iconst 0, 1) := by decide +kernel
theorem dL_refuses_607 : decode cL_refuses 607 = .ok (.iconst 0, 1) := by decide +kernel
theorem dL_refuses_608 : decode cL_refuses 608 = .ok (.invokestatic 99, 3) := by decide +kernel
theorem dL_refuses_611 : decode cL_refuses 611 = .ok (.ldc 86, 2) := by decide +kernel
theorem dL_refuses_613 : decode cL_refuses 613 = .ok (.if_icmp .ne 371, 3) := by decide +kernel
theorem dL_refuses_616 : decode cL_refuses 616 = .ok (.aload_n 0, 1) := by decide +kernel
theorem dL_refuses_617 : decode cL_refuses 617 = .ok (.bipush 11, 2) := by decide +kernel
theorem dL_refuses_619 : decode cL_refuses 619 = .ok (.iload 9, 2) := by decide +kernel
theorem dL_refuses_621 : decode cL_refuses 621 = .ok (.iconst 0, 1) := by decide +kernel
theorem dL_refuses_622 : decode cL_refuses 622 = .ok (.iconst 0, 1) := by decide +kernel
theorem dL_refuses_623 : decode cL_refuses 623 = .ok (.iconst 0, 1) := by decide +kernel
theorem dL_refuses_624 : decode cL_refuses 624 = .ok (.iconst 0, 1) := by decide +kernel
theorem dL_refuses_625 : decode cL_refuses 625 = .ok (.invokestatic 99, 3) := by decide +kernel
