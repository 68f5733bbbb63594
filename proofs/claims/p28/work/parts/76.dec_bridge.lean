theorem dL_bridge_0 : decode cL_bridge 0 = .ok (.new 8, 3) := by decide +kernel
theorem dL_bridge_3 : decode cL_bridge 3 = .ok (.dup, 1) := by decide +kernel
theorem dL_bridge_4 : decode cL_bridge 4 = .ok (.invokespecial 110, 3) := by decide +kernel
theorem dL_bridge_7 : decode cL_bridge 7 = .ok (.astore_n 0, 1) := by decide +kernel
theorem dL_bridge_8 : decode cL_bridge 8 = .ok (.aload_n 0, 1) := by decide +kernel
theorem dL_bridge_9 : decode cL_bridge 9 = .ok (.iconst 0, 1) := by decide +kernel
theorem dL_bridge_10 : decode cL_bridge 10 = .ok (.invokestatic 111, 3) := by decide +kernel
theorem dL_bridge_13 : decode cL_bridge 13 = .ok (.ifCond .eq 388, 3) := by decide +kernel
theorem dL_bridge_16 : decode cL_bridge 16 = .ok (.aload_n 0, 1) := by decide +kernel
theorem dL_bridge_17 : decode cL_bridge 17 = .ok (.iconst 0, 1) := by decide +kernel
theorem dL_bridge_18 : decode cL_bridge 18 = .ok (.iconst 1, 1) := by decide +kernel
theorem dL_bridge_19 : decode cL_bridge 19 = .ok (.iconst 3, 1) := by decide +kernel
theorem dL_bridge_20 : decode cL_bridge 20 = .ok (.sipush 1000, 3) := by decide +kernel
theorem dL_bridge_23 : decode cL_bridge 23 = .ok (.bipush 19, 2) := by decide +kernel
theorem dL_bridge_25 : decode cL_bridge 25 = .ok (.invokevirtual 7, 3) := by decide +kernel
theorem dL_bridge_28 : decode cL_bridge 28 = .ok (.ifCond .ne 373, 3) := by decide +kernel
theorem dL_bridge_31 : decode cL_bridge 31 = .ok (.aload_n 0, 1) := by decide +kernel
theorem dL_bridge_32 : decode cL_bridge 32 = .ok (.iconst 0, 1) := by decide +kernel
theorem dL_bridge_33 : decode cL_bridge 33 = .ok (.sipush 500, 3) := by decide +kernel
theorem dL_bridge_36 : decode cL_bridge 36 = .ok (.bipush 7, 2) := by decide +kernel
theorem dL_bridge_38 : decode cL_bridge 38 = .ok (.invokevirtual 13, 3) := by decide +kernel
theorem dL_bridge_41 : decode cL_bridge 41 = .ok (.iconst 1, 1) := by decide +kernel
theorem dL_bridge_42 : decode cL_bridge 42 = .ok (.if_icmp .ne 359, 3) := by decide +kernel
theorem dL_bridge_45 : decode cL_bridge 45 = .ok (.aload_n 0, 1) := by decide +kernel
theorem dL_bridge_46 : decode cL_bridge 46 = .ok (.iconst 0, 1) := by decide +kernel
theorem dL_bridge_47 : decode cL_bridge 47 = .ok (.bipush 99, 2) := by decide +kernel
theorem dL_bridge_49 : decode cL_bridge 49 = .ok (.iconst 0, 1) := by decide +kernel
theorem dL_bridge_50 : decode cL_bridge 50 = .ok (.invokevirtual 13, 3) := by decide +kernel
theorem dL_bridge_53 : decode cL_bridge 53 = .ok (.iconst 2, 1) := by decide +kernel
theorem dL_bridge_54 : decode cL_bridge 54 = .ok (.if_icmp .ne 347, 3) := by decide +kernel
theorem dL_bridge_57 : decode cL_bridge 57 = .ok (.aload_n 0, 1) := by decide +kernel
theorem dL_bridge_58 : decode cL_bridge 58 = .ok (.iconst 1, 1) := by decide +kernel
theorem dL_bridge_59 : decode cL_bridge 59 = .ok (.iconst 0, 1) := by decide +kernel
theorem dL_bridge_60 : decode cL_bridge 60 = .ok (.iconst 1, 1) := by decide +kernel
theorem dL_bridge_61 : decode cL_bridge 61 = .ok (.iconst 0, 1) := by decide +kernel
theorem dL_bridge_62 : decode cL_bridge 62 = .ok (.iconst 0, 1) := by decide +kernel
theorem dL_bridge_63 : decode cL_bridge 63 = .ok (.iconst 0, 1) := by decide +kernel
theorem dL_bridge_64 : decode cL_bridge 64 = .ok (.invokestatic 99, 3) := by decide +kernel
theorem dL_bridge_67 : decode cL_bridge 67 = .ok (.ldc 89, 2) := by decide +kernel
theorem dL_bridge_69 : decode cL_bridge 69 = .ok (.if_icmp .ne 332, 3) := by decide +kernel
theorem dL_bridge_72 : decode cL_bridge 72 = .ok (.aload_n 0, 1) := by decide +kernel
theorem dL_bridge_73 : decode cL_bridge 73 = .ok (.iconst 0, 1) := by decide +kernel
theorem dL_bridge_74 : decode cL_bridge 74 = .ok (.iconst 0, 1) := by decide +kernel
theorem dL_bridge_75 : decode cL_bridge 75 = .ok (.iconst 0, 1) := by decide +kernel
theorem dL_bridge_76 : decode cL_bridge 76 = .ok (.sipush 1824, 3) := by decide +kernel
theorem dL_bridge_79 : decode cL_bridge 79 = .ok (.iconst 0, 1) := by decide +kernel
theorem dL_bridge_80 : decode cL_bridge 80 = .ok (.iconst 0, 1) := by decide +kernel
theorem dL_bridge_81 : decode cL_bridge 81 = .ok (.invokestatic 115, 3) := by decide +kernel
theorem dL_bridge_84 : decode cL_bridge 84 = .ok (.ifCond .eq 317, 3) := by decide +kernel
theorem dL_bridge_87 : decode cL_bridge 87 = .ok (.aload_n 0, 1) := by decide +kernel
theorem dL_bridge_88 : decode cL_bridge 88 = .ok (.iconst 0, 1) := by decide +kernel
theorem dL_bridge_89 : decode cL_bridge 89 = .ok (.bipush 9, 2) := by decide +kernel
theorem dL_bridge_91 : decode cL_bridge 91 = .ok (.invokevirtual 54, 3) := by decide +kernel
theorem dL_bridge_94 : decode cL_bridge 94 = .ok (.sipush 225, 3) := by decide +kernel
theorem dL_bridge_97 : decode cL_bridge 97 = .ok (.if_icmp .ne 304, 3) := by decide +kernel
theorem dL_bridge_100 : decode cL_bridge 100 = .ok (.aload_n 0, 1) := by decide +kernel
theorem dL_bridge_101 : decode cL_bridge 101 = .ok (.iconst 0, 1) := by decide +kernel
theorem dL_bridge_102 : decode cL_bridge 102 = .ok (.bipush 7, 2) := by decide +kernel
theorem dL_bridge_104 : decode cL_bridge 104 = .ok (.invokevirtual 54, 3) := by decide +kernel
theorem dL_bridge_107 : decode cL_bridge 107 = .ok (.iconst 3, 1) := by decide +kernel
theorem dL_bridge_108 : decode cL_bridge 108 = .ok (.if_icmp .ne 293, 3) := by decide +kernel
theorem dL_bridge_111 : decode cL_bridge 111 = .ok (.aload_n 0, 1) := by decide +kernel
theorem dL_bridge_112 : decode cL_bridge 112 = .ok (.iconst 0, 1) := by decide +kernel
theorem dL_bridge_113 : decode cL_bridge 113 = .ok (.iconst 1, 1) := by decide +kernel
theorem dL_bridge_114 : decode cL_bridge 114 = .ok (.iconst 2, 1) := by decide +kernel
theorem dL_bridge_115 : decode cL_bridge 115 = .ok (.invokevirtual 57, 3) := by decide +kernel
theorem dL_bridge_118 : decode cL_bridge 118 = .ok (.bipush 35, 2) := by decide +kernel
theorem dL_bridge_120 : decode cL_bridge 120 = .ok (.if_icmp .ne 281, 3) := by decide +kernel
theorem dL_bridge_123 : decode cL_bridge 123 = .ok (.aload_n 0, 1) := by decide +kernel
theorem dL_bridge_124 : decode cL_bridge 124 = .ok (.iconst 5, 1) := by decide +kernel
theorem dL_bridge_125 : decode cL_bridge 125 = .ok (.iconst 0, 1) := by decide +kernel
theorem dL_bridge_126 : decode cL_bridge 126 = .ok (.iconst 0, 1) := by decide +kernel
theorem dL_bridge_127 : decode cL_bridge 127 = .ok (.iconst 0, 1) := by decide +kernel
theorem dL_bridge_128 : decode cL_bridge 128 = .ok (.iconst 0, 1) := by decide +kernel
theorem dL_bridge_129 : decode cL_bridge 129 = .ok (.iconst 0, 1) := by decide +kernel
theorem dL_bridge_130 : decode cL_bridge 130 = .ok (.invokestatic 99, 3) := by decide +kernel
theorem dL_bridge_133 : decode cL_bridge 133 = .ok (.ldc 89, 2) := by decide +kernel
theorem dL_bridge_135 : decode cL_bridge 135 = .ok (.if_icmp .ne 266, 3) := by decide +kernel
theorem dL_bridge_138 : decode cL_bridge 138 = .ok (.aload_n 0, 1) := by decide +kernel
theorem dL_bridge_139 : decode cL_bridge 139 = .ok (.bipush 7, 2) := by decide +kernel
theorem dL_bridge_141 : decode cL_bridge 141 = .ok (.iconst 0, 1) := by decide +kernel
theorem dL_bridge_142 : decode cL_bridge 142 = .ok (.iconst 2, 1) := by decide +kernel
theorem dL_bridge_143 : decode cL_bridge 143 = .ok (.bipush 50, 2) := by decide +kernel
theorem dL_bridge_145 : decode cL_bridge 145 = .ok (.iconst 1, 1) := by decide +kernel
theorem dL_bridge_146 : decode cL_bridge 146 = .ok (.iconst 0, 1) := by decide +kernel
theorem dL_bridge_147 : decode cL_bridge 147 = .ok (.invokestatic 99, 3) := by decide +kernel
theorem dL_bridge_150 : decode cL_bridge 150 = .ok (.ldc 89, 2) := by decide +kernel
theorem dL_bridge_152 : decode cL_bridge 152 = .ok (.if_icmp .ne 249, 3) := by decide +kernel
theorem dL_bridge_155 : decode cL_bridge 155 = .ok (.aload_n 0, 1) := by decide +kernel
theorem dL_bridge_156 : decode cL_bridge 156 = .ok (.iconst 1, 1) := by decide +kernel
theorem dL_bridge_157 : decode cL_bridge 157 = .ok (.invokevirtual 69, 3) := by decide +kernel
theorem dL_bridge_160 : decode cL_bridge 160 = .ok (.ifCond .ne 241, 3) := by decide +kernel
theorem dL_bridge_163 : decode cL_bridge 163 = .ok (.aload_n 0, 1) := by decide +kernel
theorem dL_bridge_164 : decode cL_bridge 164 = .ok (.iconst 0, 1) := by decide +kernel
theorem dL_bridge_165 : decode cL_bridge 165 = .ok (.invokevirtual 17, 3) := by decide +kernel
theorem dL_bridge_168 : decode cL_bridge 168 = .ok (.sipush 1824, 3) := by decide +kernel
theorem dL_bridge_171 : decode cL_bridge 171 = .ok (.if_icmp .ne 230, 3) := by decide +kernel
theorem dL_bridge_174 : decode cL_bridge 174 = .ok (.aload_n 0, 1) := by decide +kernel
theorem dL_bridge_175 : decode cL_bridge 175 = .ok (.iconst 2, 1) := by decide +kernel
theorem dL_bridge_176 : decode cL_bridge 176 = .ok (.iconst 0, 1) := by decide +kernel
theorem dL_bridge_177 : decode cL_bridge 177 = .ok (.iconst 0, 1) := by decide +kernel
theorem dL_bridge_178 : decode cL_bridge 178 = .ok (.iconst 0, 1) := by decide +kernel
theorem dL_bridge_179 : decode cL_bridge 179 = .ok (.iconst 0, 1) := by decide +kernel
theorem dL_bridge_180 : decode cL_bridge 180 = .ok (.iconst 0, 1) := by decide +kernel
theorem dL_bridge_181 : decode cL_bridge 181 = .ok (.invokestatic 99, 3) := by decide +kernel
theorem dL_bridge_184 : decode cL_bridge 184 = .ok (.ldc 89, 2) := by decide +kernel
theorem dL_bridge_186 : decode cL_bridge 186 = .ok (.if_icmp .ne 215, 3) := by decide +kernel
theorem dL_bridge_189 : decode cL_bridge 189 = .ok (.aload_n 0, 1) := by decide +kernel
theorem dL_bridge_190 : decode cL_bridge 190 = .ok (.iconst 3, 1) := by decide +kernel
theorem dL_bridge_191 : decode cL_bridge 191 = .ok (.iconst 0, 1) := by decide +kernel
theorem dL_bridge_192 : decode cL_bridge 192 = .ok (.iconst 0, 1) := by decide +kernel
theorem dL_bridge_193 : decode cL_bridge 193 = .ok (.iconst 0, 1) := by decide +kernel
theorem dL_bridge_194 : decode cL_bridge 194 = .ok (.iconst 0, 1) := by decide +kernel
theorem dL_bridge_195 : decode cL_bridge 195 = .ok (.iconst 0, 1) := by decide +kernel
theorem dL_bridge_196 : decode cL_bridge 196 = .ok (.invokestatic 99, 3) := by decide +kernel
theorem dL_bridge_199 : decode cL_bridge 199 = .ok (.ldc 89, 2) := by decide +kernel
theorem dL_bridge_201 : decode cL_bridge 201 = .ok (.if_icmp .ne 200, 3) := by decide +kernel
theorem dL_bridge_204 : decode cL_bridge 204 = .ok (.aload_n 0, 1) := by decide +kernel
theorem dL_bridge_205 : decode cL_bridge 205 = .ok (.iconst 1, 1) := by decide +kernel
theorem dL_bridge_206 : decode cL_bridge 206 = .ok (.iconst 0, 1) := by decide +kernel
theorem dL_bridge_207 : decode cL_bridge 207 = .ok (.iconst 1, 1) := by decide +kernel
theorem dL_bridge_208 : decode cL_bridge 208 = .ok (.iconst 0, 1) := by decide +kernel
theorem dL_bridge_209 : decode cL_bridge 209 = .ok (.iconst 0, 1) := by decide +kernel
theorem dL_bridge_210 : decode cL_bridge 210 = .ok (.iconst 0, 1) := by decide +kernel
theorem dL_bridge_211 : decode cL_bridge 211 = .ok (.invokestatic 99, 3) := by decide +kernel
theorem dL_bridge_214 : decode cL_bridge 214 = .ok (.ldc 89, 2) := by decide +kernel
theorem dL_bridge_216 : decode cL_bridge 216 = .ok (.if_icmp .ne 185, 3) := by decide +kernel
theorem dL_bridge_219 : decode cL_bridge 219 = .ok (.aload_n 0, 1) := by decide +kernel
theorem dL_bridge_220 : decode cL_bridge 220 = .ok (.iconst 0, 1) := by decide +kernel
theorem dL_bridge_221 : decode cL_bridge 221 = .ok (.iconst 1, 1) := by decide +kernel
theorem dL_bridge_222 : decode cL_bridge 222 = .ok (.invokevirtual 27, 3) := by decide +kernel
theorem dL_bridge_225 : decode cL_bridge 225 = .ok (.sipush 1289, 3) := by decide +kernel
theorem dL_bridge_228 : decode cL_bridge 228 = .ok (.if_icmp .ne 173, 3) := by decide +kernel
theorem dL_bridge_231 : decode cL_bridge 231 = .ok (.aload_n 0, 1) := by decide +kernel
theorem dL_bridge_232 : decode cL_bridge 232 = .ok (.iconst 5, 1) := by decide +kernel
theorem dL_bridge_233 : decode cL_bridge 233 = .ok (.iconst 0, 1) := by decide +kernel
theorem dL_bridge_234 : decode cL_bridge 234 = .ok (.iconst 1, 1) := by decide +kernel
theorem dL_bridge_235 : decode cL_bridge 235 = .ok (.iconst 0, 1) := by decide +kernel
theorem dL_bridge_236 : decode cL_bridge 236 = .ok (.iconst 0, 1) := by decide +kernel
theorem dL_bridge_237 : decode cL_bridge 237 = .ok (.iconst 0, 1) := by decide +kernel
theorem dL_bridge_238 : decode cL_bridge 238 = .ok (.invokestatic 99, 3) := by decide +kernel
theorem dL_bridge_241 : decode cL_bridge 241 = .ok (.ldc 89, 2) := by decide +kernel
theorem dL_bridge_243 : decode cL_bridge 243 = .ok (.if_icmp .ne 158, 3) := by decide +kernel
theorem dL_bridge_246 : decode cL_bridge 246 = .ok (.aload_n 0, 1) := by decide +kernel
theorem dL_bridge_247 : decode cL_bridge 247 = .ok (.bipush 6, 2) := by decide +kernel
theorem dL_bridge_249 : decode cL_bridge 249 = .ok (.iconst 0, 1) := by decide +kernel
theorem dL_bridge_250 : decode cL_bridge 250 = .ok (.iconst 0, 1) := by decide +kernel
theorem dL_bridge_251 : decode cL_bridge 251 = .ok (.iconst 1, 1) := by decide +kernel
theorem dL_bridge_252 : decode cL_bridge 252 = .ok (.iconst 0, 1) := by decide +kernel
theorem dL_bridge_253 : decode cL_bridge 253 = .ok (.iconst 0, 1) := by decide +kernel
theorem dL_bridge_254 : decode cL_bridge 254 = .ok (.invokestatic 99, 3) := by decide +kernel
theorem dL_bridge_257 : decode cL_bridge 257 = .ok (.ldc 89, 2) := by decide +kernel
theorem dL_bridge_259 : decode cL_bridge 259 = .ok (.if_icmp .ne 142, 3) := by decide +kernel
theorem dL_bridge_262 : decode cL_bridge 262 = .ok (.aload_n 0, 1) := by decide +kernel
theorem dL_bridge_263 : decode cL_bridge 263 = .ok (.iconst 1, 1) := by decide +kernel
theorem dL_bridge_264 : decode cL_bridge 264 = .ok (.invokevirtual 69, 3) := by decide +kernel
theorem dL_bridge_267 : decode cL_bridge 267 = .ok (.sipush 1289, 3) := by decide +kernel
theorem dL_bridge_270 : decode cL_bridge 270 = .ok (.if_icmp .ne 131, 3) := by decide +kernel
theorem dL_bridge_273 : decode cL_bridge 273 = .ok (.aload_n 0, 1) := by decide +kernel
theorem dL_bridge_274 : decode cL_bridge 274 = .ok (.iconst 0, 1) := by decide +kernel
theorem dL_bridge_275 : decode cL_bridge 275 = .ok (.invokevirtual 66, 3) := by decide +kernel
theorem dL_bridge_278 : decode cL_bridge 278 = .ok (.sipush 1289, 3) := by decide +kernel
theorem dL_bridge_281 : decode cL_bridge 281 = .ok (.if_icmp .ne 120, 3) := by decide +kernel
theorem dL_bridge_284 : decode cL_bridge 284 = .ok (.aload_n 0, 1) := by decide +kernel
theorem dL_bridge_285 : decode cL_bridge 285 = .ok (.iconst 0, 1) := by decide +kernel
theorem dL_bridge_286 : decode cL_bridge 286 = .ok (.iconst 1, 1) := by decide +kernel
theorem dL_bridge_287 : decode cL_bridge 287 = .ok (.iconst 3, 1) := by decide +kernel
theorem dL_bridge_288 : decode cL_bridge 288 = .ok (.invokevirtual 57, 3) := by decide +kernel
theorem dL_bridge_291 : decode cL_bridge 291 = .ok (.iconst 1, 1) := by decide +kernel
theorem dL_bridge_292 : decode cL_bridge 292 = .ok (.if_icmp .ne 109, 3) := by decide +kernel
theorem dL_bridge_295 : decode cL_bridge 295 = .ok (.aload_n 0, 1) := by decide +kernel
theorem dL_bridge_296 : decode cL_bridge 296 = .ok (.bipush 8, 2) := by decide +kernel
theorem dL_bridge_298 : decode cL_bridge 298 = .ok (.iconst 0, 1) := by decide +kernel
theorem dL_bridge_299 : decode cL_bridge 299 = .ok (.iconst 0, 1) := by decide +kernel
theorem dL_bridge_300 : decode cL_bridge 300 = .ok (.iconst 0, 1) := by decide +kernel
theorem dL_bridge_301 : decode cL_bridge 301 = .ok (.iconst 0, 1) := by decide +kernel
theorem dL_bridge_302 : decode cL_bridge 302 = .ok (.iconst 0, 1) := by decide +kernel
theorem dL_bridge_303 : decode cL_bridge 303 = .ok (.invokestatic 99, 3) := by decide +kernel
theorem dL_bridge_306 : decode cL_bridge 306 = .ok (.ldc 89, 2) := by decide +kernel
theorem dL_bridge_308 : decode cL_bridge 308 = .ok (.if_icmp .ne 93, 3) := by decide +kernel
theorem dL_bridge_311 : decode cL_bridge 311 = .ok (.aload_n 0, 1) := by decide +kernel
theorem dL_bridge_312 : decode cL_bridge 312 = .ok (.iconst 0, 1) := by decide +kernel
theorem dL_bridge_313 : decode cL_bridge 313 = .ok (.iconst 2, 1) := by decide +kernel
theorem dL_bridge_314 : decode cL_bridge 314 = .ok (.bipush 90, 2) := by decide +kernel
theorem dL_bridge_316 : decode cL_bridge 316 = .ok (.iconst 1, 1) := by decide +kernel
theorem dL_bridge_317 : decode cL_bridge 317 = .ok (.invokevirtual 35, 3) := by decide +kernel
theorem dL_bridge_320 : decode cL_bridge 320 = .ok (.sipush 1160, 3) := by decide +kernel
theorem dL_bridge_323 : decode cL_bridge 323 = .ok (.if_icmp .ne 78, 3) := by decide +kernel
theorem dL_bridge_326 : decode cL_bridge 326 = .ok (.aload_n 0, 1) := by decide +kernel
theorem dL_bridge_327 : decode cL_bridge 327 = .ok (.iconst 2, 1) := by decide +kernel
theorem dL_bridge_328 : decode cL_bridge 328 = .ok (.sipush (-1160), 3) := by decide +kernel
theorem dL_bridge_331 : decode cL_bridge 331 = .ok (.invokestatic 118, 3) := by decide +kernel
theorem dL_bridge_334 : decode cL_bridge 334 = .ok (.ifCond .eq 67, 3) := by decide +kernel
theorem dL_bridge_337 : decode cL_bridge 337 = .ok (.aload_n 0, 1) := by decide +kernel
theorem dL_bridge_338 : decode cL_bridge 338 = .ok (.iconst 0, 1) := by decide +kernel
theorem dL_bridge_339 : decode cL_bridge 339 = .ok (.sipush 1160, 3) := by decide +kernel
theorem dL_bridge_342 : decode cL_bridge 342 = .ok (.invokestatic 118, 3) := by decide +kernel
theorem dL_bridge_345 : decode cL_bridge 345 = .ok (.ifCond .eq 56, 3) := by decide +kernel
theorem dL_bridge_348 : decode cL_bridge 348 = .ok (.aload_n 0, 1) := by decide +kernel
theorem dL_bridge_349 : decode cL_bridge 349 = .ok (.iconst 0, 1) := by decide +kernel
theorem dL_bridge_350 : decode cL_bridge 350 = .ok (.iconst 1, 1) := by decide +kernel
theorem dL_bridge_351 : decode cL_bridge 351 = .ok (.iconst 2, 1) := by decide +kernel
theorem dL_bridge_352 : decode cL_bridge 352 = .ok (.sipush 1824, 3) := by decide +kernel
theorem dL_bridge_355 : decode cL_bridge 355 = .ok (.sipush 1289, 3) := by decide +kernel
theorem dL_bridge_358 : decode cL_bridge 358 = .ok (.iconst 0, 1) := by decide +kernel
theorem dL_bridge_359 : decode cL_bridge 359 = .ok (.invokestatic 115, 3) := by decide +kernel
theorem dL_bridge_362 : decode cL_bridge 362 = .ok (.ifCond .eq 39, 3) := by decide +kernel
theorem dL_bridge_365 : decode cL_bridge 365 = .ok (.aload_n 0, 1) := by decide +kernel
theorem dL_bridge_366 : decode cL_bridge 366 = .ok (.iconst 2, 1) := by decide +kernel
theorem dL_bridge_367 : decode cL_bridge 367 = .ok (.invokevirtual 66, 3) := by decide +kernel
theorem dL_bridge_370 : decode cL_bridge 370 = .ok (.sipush 1289, 3) := by decide +kernel
theorem dL_bridge_373 : decode cL_bridge 373 = .ok (.if_icmp .ne 28, 3) := by decide +kernel
theorem dL_bridge_376 : decode cL_bridge 376 = .ok (.aload_n 0, 1) := by decide +kernel
theorem dL_bridge_377 : decode cL_bridge 377 = .ok (.iconst 0, 1) := by decide +kernel
theorem dL_bridge_378 : decode cL_bridge 378 = .ok (.invokevirtual 66, 3) := by decide +kernel
theorem dL_bridge_381 : decode cL_bridge 381 = .ok (.ifCond .ne 20, 3) := by decide +kernel
theorem dL_bridge_384 : decode cL_bridge 384 = .ok (.aload_n 0, 1) := by decide +kernel
theorem dL_bridge_385 : decode cL_bridge 385 = .ok (.bipush 7, 2) := by decide +kernel
theorem dL_bridge_387 : decode cL_bridge 387 = .ok (.iconst 0, 1) := by decide +kernel
theorem dL_bridge_388 : decode cL_bridge 388 = .ok (.iconst 3, 1) := by decide +kernel
theorem dL_bridge_389 : decode cL_bridge 389 = .ok (.bipush 50, 2) := by decide +kernel
theorem dL_bridge_391 : decode cL_bridge 391 = .ok (.iconst 1, 1) := by decide +kernel
theorem dL_bridge_392 : decode cL_bridge 392 = .ok (.iconst 0, 1) := by decide +kernel
theorem dL_bridge_393 : decode cL_bridge 393 = .ok (.invokestatic 99, 3) := by decide +kernel
theorem dL_bridge_396 : decode cL_bridge 396 = .ok (.ldc 89, 2) := by decide +kernel
theorem dL_bridge_398 : decode cL_bridge 398 = .ok (.if_icmp .eq 5, 3) := by decide +kernel
theorem dL_bridge_401 : decode cL_bridge 401 = .ok (.iconst 0, 1) := by decide +kernel
theorem dL_bridge_402 : decode cL_bridge 402 = .ok (.ireturn, 1) := by decide +kernel
theorem dL_bridge_403 : decode cL_bridge 403 = .ok (.aload_n 0, 1) := by decide +kernel
theorem dL_bridge_404 : decode cL_bridge 404 = .ok (.ldc2_w 121, 3) := by decide +kernel
theorem dL_bridge_407 : decode cL_bridge 407 = .ok (.iconst 2, 1) := by decide +kernel
theorem dL_bridge_408 : decode cL_bridge 408 = .ok (.invokestatic 123, 3) := by decide +kernel
theorem dL_bridge_411 : decode cL_bridge 411 = .ok (.iconst (-1), 1) := by decide +kernel
theorem dL_bridge_412 : decode cL_bridge 412 = .ok (.if_icmp .ne 405, 3) := by decide +kernel
theorem dL_bridge_415 : decode cL_bridge 415 = .ok (.aload_n 0, 1) := by decide +kernel
theorem dL_bridge_416 : decode cL_bridge 416 = .ok (.bipush 10, 2) := by decide +kernel
theorem dL_bridge_418 : decode cL_bridge 418 = .ok (.iconst 1, 1) := by decide +kernel
theorem dL_bridge_419 : decode cL_bridge 419 = .ok (.iconst 0, 1) := by decide +kernel
theorem dL_bridge_420 : decode cL_bridge 420 = .ok (.iconst 5, 1) := by decide +kernel
theorem dL_bridge_421 : decode cL_bridge 421 = .ok (.iconst 0, 1) := by decide +kernel
theorem dL_bridge_422 : decode cL_bridge 422 = .ok (.iconst 0, 1) := by decide +kernel
theorem dL_bridge_423 : decode cL_bridge 423 = .ok (.invokestatic 99, 3) := by decide +kernel
theorem dL_bridge_426 : decode cL_bridge 426 = .ok (.ldc 89, 2) := by decide +kernel
theorem dL_bridge_428 : decode cL_bridge 428 = .ok (.if_icmp .ne 389, 3) := by decide +kernel
theorem dL_bridge_431 : decode cL_bridge 431 = .ok (.aload_n 0, 1) := by decide +kernel
theorem dL_bridge_432 : decode cL_bridge 432 = .ok (.bipush 10, 2) := by decide +kernel
theorem dL_bridge_434 : decode cL_bridge 434 = .ok (.iconst 0, 1) := by decide +kernel
theorem dL_bridge_435 : decode cL_bridge 435 = .ok (.iconst 2, 1) := by decide +kernel
theorem dL_bridge_436 : decode cL_bridge 436 = .ok (.iconst 5, 1) := by decide +kernel
theorem dL_bridge_437 : decode cL_bridge 437 = .ok (.iconst 0, 1) := by decide +kernel
theorem dL_bridge_438 : decode cL_bridge 438 = .ok (.iconst 0, 1) := by decide +kernel
theorem dL_bridge_439 : decode cL_bridge 439 = .ok (.invokestatic 99, 3) := by decide +kernel
theorem dL_bridge_442 : decode cL_bridge 442 = .ok (.ldc 89, 2) := by decide +kernel
theorem dL_bridge_444 : decode cL_bridge 444 = .ok (.if_icmp .ne 373, 3) := by decide +kernel
theorem dL_bridge_447 : decode cL_bridge 447 = .ok (.aload_n 0, 1) := by decide +kernel
theorem dL_bridge_448 : decode cL_bridge 448 = .ok (.bipush 10, 2) := by decide +kernel
theorem dL_bridge_450 : decode cL_bridge 450 = .ok (.iconst 1, 1) := by decide +kernel
theorem dL_bridge_451 : decode cL_bridge 451 = .ok (.iconst 2, 1) := by decide +kernel
theorem dL_bridge_452 : decode cL_bridge 452 = .ok (.sipush 1290, 3) := by decide +kernel
theorem dL_bridge_455 : decode cL_bridge 455 = .ok (.iconst 0, 1) := by decide +kernel
theorem dL_bridge_456 : decode cL_bridge 456 = .ok (.iconst 0, 1) := by decide +kernel
theorem dL_bridge_457 : decode cL_bridge 457 = .ok (.invokestatic 99, 3) := by decide +kernel
theorem dL_bridge_460 : decode cL_bridge 460 = .ok (.ldc 89, 2) := by decide +kernel
theorem dL_bridge_462 : decode cL_bridge 462 = .ok (.if_icmp .ne 355, 3) := by decide +kernel
theorem dL_bridge_465 : decode cL_bridge 465 = .ok (.aload_n 0, 1) := by decide +kernel
theorem dL_bridge_466 : decode cL_bridge 466 = .ok (.iconst 1, 1) := by decide +kernel
theorem dL_bridge_467 : decode cL_bridge 467 = .ok (.iconst 2, 1) := by decide +kernel
theorem dL_bridge_468 : decode cL_bridge 468 = .ok (.sipush 1000, 3) := by decide +kernel
theorem dL_bridge_471 : decode cL_bridge 471 = .ok (.invokevirtual 45, 3) := by decide +kernel
theorem dL_bridge_474 : decode cL_bridge 474 = .ok (.ifCond .ne 343, 3) := by decide +kernel
theorem dL_bridge_477 : decode cL_bridge 477 = .ok (.aload_n 0, 1) := by decide +kernel
theorem dL_bridge_478 : decode cL_bridge 478 = .ok (.invokevirtual 95, 3) := by decide +kernel
theorem dL_bridge_481 : decode cL_bridge 481 = .ok (.ifCond .ne 336, 3) := by decide +kernel
theorem dL_bridge_484 : decode cL_bridge 484 = .ok (.aload_n 0, 1) := by decide +kernel
theorem dL_bridge_485 : decode cL_bridge 485 = .ok (.invokevirtual 105, 3) := by decide +kernel
theorem dL_bridge_488 : decode cL_bridge 488 = .ok (.ifCond .ne 329, 3) := by decide +kernel
theorem dL_bridge_491 : decode cL_bridge 491 = .ok (.aload_n 0, 1) := by decide +kernel
theorem dL_bridge_492 : decode cL_bridge 492 = .ok (.bipush 10, 2) := by decide +kernel
theorem dL_bridge_494 : decode cL_bridge 494 = .ok (.iconst 1, 1) := by decide +kernel
theorem dL_bridge_495 : decode cL_bridge 495 = .ok (.iconst 2, 1) := by decide +kernel
theorem dL_bridge_496 : decode cL_bridge 496 = .ok (.iconst 5, 1) := by decide +kernel
theorem dL_bridge_497 : decode cL_bridge 497 = .ok (.iconst 0, 1) := by decide +kernel
theorem dL_bridge_498 : decode cL_bridge 498 = .ok (.iconst 0, 1) := by decide +kernel
theorem dL_bridge_499 : decode cL_bridge 499 = .ok (.invokestatic 99, 3) := by decide +kernel
theorem dL_bridge_502 : decode cL_bridge 502 = .ok (.ldc 89, 2) := by decide +kernel
theorem dL_bridge_504 : decode cL_bridge 504 = .ok (.if_icmp .ne 313, 3) := by decide +kernel
theorem dL_bridge_507 : decode cL_bridge 507 = .ok (.aload_n 0, 1) := by decide +kernel
theorem dL_bridge_508 : decode cL_bridge 508 = .ok (.iconst 0, 1) := by decide +kernel
theorem dL_bridge_509 : decode cL_bridge 509 = .ok (.iconst 1, 1) := by decide +kernel
theorem dL_bridge_510 : decode cL_bridge 510 = .ok (.iconst 2, 1) := by decide +kernel
theorem dL_bridge_511 : decode cL_bridge 511 = .ok (.sipush 1824, 3) := by decide +kernel
theorem dL_bridge_514 : decode cL_bridge 514 = .ok (.sipush 289, 3) := by decide +kernel
theorem dL_bridge_517 : decode cL_bridge 517 = .ok (.sipush 1000, 3) := by decide +kernel
theorem dL_bridge_520 : decode cL_bridge 520 = .ok (.invokestatic 115, 3) := by decide +kernel
theorem dL_bridge_523 : decode cL_bridge 523 = .ok (.ifCond .eq 294, 3) := by decide +kernel
theorem dL_bridge_526 : decode cL_bridge 526 = .ok (.aload_n 0, 1) := by decide +kernel
theorem dL_bridge_527 : decode cL_bridge 527 = .ok (.iconst 1, 1) := by decide +kernel
theorem dL_bridge_528 : decode cL_bridge 528 = .ok (.sipush (-1000), 3) := by decide +kernel
theorem dL_bridge_531 : decode cL_bridge 531 = .ok (.invokestatic 118, 3) := by decide +kernel
theorem dL_bridge_534 : decode cL_bridge 534 = .ok (.ifCond .eq 283, 3) := by decide +kernel
theorem dL_bridge_537 : decode cL_bridge 537 = .ok (.aload_n 0, 1) := by decide +kernel
theorem dL_bridge_538 : decode cL_bridge 538 = .ok (.iconst 2, 1) := by decide +kernel
theorem dL_bridge_539 : decode cL_bridge 539 = .ok (.sipush (-160), 3) := by decide +kernel
theorem dL_bridge_542 : decode cL_bridge 542 = .ok (.invokestatic 118, 3) := by decide +kernel
theorem dL_bridge_545 : decode cL_bridge 545 = .ok (.ifCond .eq 272, 3) := by decide +kernel
theorem dL_bridge_548 : decode cL_bridge 548 = .ok (.aload_n 0, 1) := by decide +kernel
theorem dL_bridge_549 : decode cL_bridge 549 = .ok (.bipush 11, 2) := by decide +kernel
theorem dL_bridge_551 : decode cL_bridge 551 = .ok (.iconst 1, 1) := by decide +kernel
theorem dL_bridge_552 : decode cL_bridge 552 = .ok (.iconst 2, 1) := by decide +kernel
theorem dL_bridge_553 : decode cL_bridge 553 = .ok (.sipush 288, 3) := by decide +kernel
theorem dL_bridge_556 : decode cL_bridge 556 = .ok (.iconst 0, 1) := by decide +kernel
theorem dL_bridge_557 : decode cL_bridge 557 = .ok (.iconst 0, 1) := by decide +kernel
theorem dL_bridge_558 : decode cL_bridge 558 = .ok (.invokestatic 99, 3) := by decide +kernel
theorem dL_bridge_561 : decode cL_bridge 561 = .ok (.ldc 89, 2) := by decide +kernel
theorem dL_bridge_563 : decode cL_bridge 563 = .ok (.if_icmp .ne 254, 3) := by decide +kernel
theorem dL_bridge_566 : decode cL_bridge 566 = .ok (.aload_n 0, 1) := by decide +kernel
theorem dL_bridge_567 : decode cL_bridge 567 = .ok (.bipush 11, 2) := by decide +kernel
theorem dL_bridge_569 : decode cL_bridge 569 = .ok (.iconst 1, 1) := by decide +kernel
theorem dL_bridge_570 : decode cL_bridge 570 = .ok (.iconst 0, 1) := by decide +kernel
theorem dL_bridge_571 : decode cL_bridge 571 = .ok (.sipush 289, 3) := by decide +kernel
theorem dL_bridge_574 : decode cL_bridge 574 = .ok (.iconst 0, 1) := by decide +kernel
theorem dL_bridge_575 : decode cL_bridge 575 = .ok (.iconst 0, 1) := by decide +kernel
theorem dL_bridge_576 : decode cL_bridge 576 = .ok (.invokestatic 99, 3) := by decide +kernel
theorem dL_bridge_579 : decode cL_bridge 579 = .ok (.ldc 89, 2) := by decide +kernel
theorem dL_bridge_581 : decode cL_bridge 581 = .ok (.if_icmp .ne 236, 3) := by decide +kernel
theorem dL_bridge_584 : decode cL_bridge 584 = .ok (.aload_n 0, 1) := by decide +kernel
theorem dL_bridge_585 : decode cL_bridge 585 = .ok (.iconst 1, 1) := by decide +kernel
theorem dL_bridge_586 : decode cL_bridge 586 = .ok (.iconst 2, 1) := by decide +kernel
theorem dL_bridge_587 : decode cL_bridge 587 = .ok (.sipush 289, 3) := by decide +kernel
theorem dL_bridge_590 : decode cL_bridge 590 = .ok (.invokevirtual 48, 3) := by decide +kernel
theorem dL_bridge_593 : decode cL_bridge 593 = .ok (.ifCond .ne 224, 3) := by decide +kernel
theorem dL_bridge_596 : decode cL_bridge 596 = .ok (.aload_n 0, 1) := by decide +kernel
theorem dL_bridge_597 : decode cL_bridge 597 = .ok (.iconst 1, 1) := by decide +kernel
theorem dL_bridge_598 : decode cL_bridge 598 = .ok (.sipush (-1289), 3) := by decide +kernel
theorem dL_bridge_601 : decode cL_bridge 601 = .ok (.invokestatic 118, 3) := by decide +kernel
theorem dL_bridge_604 : decode cL_bridge 604 = .ok (.ifCond .eq 213, 3) := by decide +kernel
theorem dL_bridge_607 : decode cL_bridge 607 = .ok (.aload_n 0, 1) := by decide +kernel
theorem dL_bridge_608 : decode cL_bridge 608 = .ok (.iconst 2, 1) := by decide +kernel
theorem dL_bridge_609 : decode cL_bridge 609 = .ok (.sipush 129, 3) := by decide +kernel
theorem dL_bridge_612 : decode cL_bridge 612 = .ok (.invokestatic 118, 3) := by decide +kernel
theorem dL_bridge_615 : decode cL_bridge 615 = .ok (.ifCond .eq 202, 3) := by decide +kernel
theorem dL_bridge_618 : decode cL_bridge 618 = .ok (.aload_n 0, 1) := by decide +kernel
theorem dL_bridge_619 : decode cL_bridge 619 = .ok (.bipush 8, 2) := by decide +kernel
theorem dL_bridge_621 : decode cL_bridge 621 = .ok (.iconst 0, 1) := by decide +kernel
theorem dL_bridge_622 : decode cL_bridge 622 = .ok (.iconst 0, 1) := by decide +kernel
theorem dL_bridge_623 : decode cL_bridge 623 = .ok (.iconst 0, 1) := by decide +kernel
theorem dL_bridge_624 : decode cL_bridge 624 = .ok (.iconst 0, 1) := by decide +kernel
theorem dL_bridge_625 : decode cL_bridge 625 = .ok (.iconst 0, 1) := by decide +kernel
theorem dL_bridge_626 : decode cL_bridge 626 = .ok (.invokestatic 99, 3) := by decide +kernel
theorem dL_bridge_629 : decode cL_bridge 629 = .ok (.ldc 89, 2) := by decide +kernel
theorem dL_bridge_631 : decode cL_bridge 631 = .ok (.if_icmp .ne 186, 3) := by decide +kernel
theorem dL_bridge_634 : decode cL_bridge 634 = .ok (.aload_n 0, 1) := by decide +kernel
theorem dL_bridge_635 : decode cL_bridge 635 = .ok (.iconst 0, 1) := by decide +kernel
theorem dL_bridge_636 : decode cL_bridge 636 = .ok (.iconst 1, 1) := by decide +kernel
theorem dL_bridge_637 : decode cL_bridge 637 = .ok (.iconst 0, 1) := by decide +kernel
theorem dL_bridge_638 : decode cL_bridge 638 = .ok (.invokevirtual 31, 3) := by decide +kernel
theorem dL_bridge_641 : decode cL_bridge 641 = .ok (.sipush 535, 3) := by decide +kernel
theorem dL_bridge_644 : decode cL_bridge 644 = .ok (.if_icmp .ne 173, 3) := by decide +kernel
theorem dL_bridge_647 : decode cL_bridge 647 = .ok (.aload_n 0, 1) := by decide +kernel
theorem dL_bridge_648 : decode cL_bridge 648 = .ok (.iconst 0, 1) := by decide +kernel
theorem dL_bridge_649 : decode cL_bridge 649 = .ok (.invokevirtual 39, 3) := by decide +kernel
theorem dL_bridge_652 : decode cL_bridge 652 = .ok (.sipush 1160, 3) := by decide +kernel
theorem dL_bridge_655 : decode cL_bridge 655 = .ok (.if_icmp .ne 162, 3) := by decide +kernel
theorem dL_bridge_658 : decode cL_bridge 658 = .ok (.aload_n 0, 1) := by decide +kernel
theorem dL_bridge_659 : decode cL_bridge 659 = .ok (.iconst 0, 1) := by decide +kernel
theorem dL_bridge_660 : decode cL_bridge 660 = .ok (.iconst 0, 1) := by decide +kernel
theorem dL_bridge_661 : decode cL_bridge 661 = .ok (.invokestatic 118, 3) := by decide +kernel
theorem dL_bridge_664 : decode cL_bridge 664 = .ok (.ifCond .eq 153, 3) := by decide +kernel
theorem dL_bridge_667 : decode cL_bridge 667 = .ok (.aload_n 0, 1) := by decide +kernel
theorem dL_bridge_668 : decode cL_bridge 668 = .ok (.iconst 2, 1) := by decide +kernel
theorem dL_bridge_669 : decode cL_bridge 669 = .ok (.sipush 1289, 3) := by decide +kernel
theorem dL_bridge_672 : decode cL_bridge 672 = .ok (.invokestatic 118, 3) := by decide +kernel
theorem dL_bridge_675 : decode cL_bridge 675 = .ok (.ifCond .eq 142, 3) := by decide +kernel
theorem dL_bridge_678 : decode cL_bridge 678 = .ok (.aload_n 0, 1) := by decide +kernel
theorem dL_bridge_679 : decode cL_bridge 679 = .ok (.iconst 0, 1) := by decide +kernel
theorem dL_bridge_680 : decode cL_bridge 680 = .ok (.iconst 1, 1) := by decide +kernel
theorem dL_bridge_681 : decode cL_bridge 681 = .ok (.iconst 0, 1) := by decide +kernel
theorem dL_bridge_682 : decode cL_bridge 682 = .ok (.sipush 1824, 3) := by decide +kernel
theorem dL_bridge_685 : decode cL_bridge 685 = .ok (.sipush 535, 3) := by decide +kernel
theorem dL_bridge_688 : decode cL_bridge 688 = .ok (.sipush 1289, 3) := by decide +kernel
theorem dL_bridge_691 : decode cL_bridge 691 = .ok (.invokestatic 115, 3) := by decide +kernel
theorem dL_bridge_694 : decode cL_bridge 694 = .ok (.ifCond .eq 123, 3) := by decide +kernel
theorem dL_bridge_697 : decode cL_bridge 697 = .ok (.aload_n 0, 1) := by decide +kernel
theorem dL_bridge_698 : decode cL_bridge 698 = .ok (.bipush 8, 2) := by decide +kernel
theorem dL_bridge_700 : decode cL_bridge 700 = .ok (.iconst 0, 1) := by decide +kernel
theorem dL_bridge_701 : decode cL_bridge 701 = .ok (.iconst 0, 1) := by decide +kernel
theorem dL_bridge_702 : decode cL_bridge 702 = .ok (.iconst 0, 1) := by decide +kernel
theorem dL_bridge_703 : decode cL_bridge 703 = .ok (.iconst 0, 1) := by decide +kernel
theorem dL_bridge_704 : decode cL_bridge 704 = .ok (.iconst 0, 1) := by decide +kernel
theorem dL_bridge_705 : decode cL_bridge 705 = .ok (.invokestatic 99, 3) := by decide +kernel
theorem dL_bridge_708 : decode cL_bridge 708 = .ok (.ldc 89, 2) := by decide +kernel
theorem dL_bridge_710 : decode cL_bridge 710 = .ok (.if_icmp .ne 107, 3) := by decide +kernel
theorem dL_bridge_713 : decode cL_bridge 713 = .ok (.aload_n 0, 1) := by decide +kernel
theorem dL_bridge_714 : decode cL_bridge 714 = .ok (.iconst 0, 1) := by decide +kernel
theorem dL_bridge_715 : decode cL_bridge 715 = .ok (.iconst 0, 1) := by decide +kernel
theorem dL_bridge_716 : decode cL_bridge 716 = .ok (.bipush 100, 2) := by decide +kernel
theorem dL_bridge_718 : decode cL_bridge 718 = .ok (.invokevirtual 24, 3) := by decide +kernel
theorem dL_bridge_721 : decode cL_bridge 721 = .ok (.sipush 900, 3) := by decide +kernel
theorem dL_bridge_724 : decode cL_bridge 724 = .ok (.if_icmp .ne 93, 3) := by decide +kernel
theorem dL_bridge_727 : decode cL_bridge 727 = .ok (.aload_n 0, 1) := by decide +kernel
theorem dL_bridge_728 : decode cL_bridge 728 = .ok (.iconst 0, 1) := by decide +kernel
theorem dL_bridge_729 : decode cL_bridge 729 = .ok (.iconst 0, 1) := by decide +kernel
theorem dL_bridge_730 : decode cL_bridge 730 = .ok (.iconst 2, 1) := by decide +kernel
theorem dL_bridge_731 : decode cL_bridge 731 = .ok (.invokevirtual 57, 3) := by decide +kernel
theorem dL_bridge_734 : decode cL_bridge 734 = .ok (.sipush 171, 3) := by decide +kernel
theorem dL_bridge_737 : decode cL_bridge 737 = .ok (.if_icmp .ne 80, 3) := by decide +kernel
theorem dL_bridge_740 : decode cL_bridge 740 = .ok (.aload_n 0, 1) := by decide +kernel
theorem dL_bridge_741 : decode cL_bridge 741 = .ok (.iconst 0, 1) := by decide +kernel
theorem dL_bridge_742 : decode cL_bridge 742 = .ok (.iconst 0, 1) := by decide +kernel
theorem dL_bridge_743 : decode cL_bridge 743 = .ok (.iconst 4, 1) := by decide +kernel
theorem dL_bridge_744 : decode cL_bridge 744 = .ok (.invokevirtual 57, 3) := by decide +kernel
theorem dL_bridge_747 : decode cL_bridge 747 = .ok (.sipush 1000, 3) := by decide +kernel
theorem dL_bridge_750 : decode cL_bridge 750 = .ok (.if_icmp .ne 67, 3) := by decide +kernel
theorem dL_bridge_753 : decode cL_bridge 753 = .ok (.aload_n 0, 1) := by decide +kernel
theorem dL_bridge_754 : decode cL_bridge 754 = .ok (.iconst 0, 1) := by decide +kernel
theorem dL_bridge_755 : decode cL_bridge 755 = .ok (.iconst 1, 1) := by decide +kernel
theorem dL_bridge_756 : decode cL_bridge 756 = .ok (.iconst 0, 1) := by decide +kernel
theorem dL_bridge_757 : decode cL_bridge 757 = .ok (.sipush 1705, 3) := by decide +kernel
theorem dL_bridge_760 : decode cL_bridge 760 = .ok (.sipush 416, 3) := by decide +kernel
theorem dL_bridge_763 : decode cL_bridge 763 = .ok (.sipush 1289, 3) := by decide +kernel
theorem dL_bridge_766 : decode cL_bridge 766 = .ok (.invokestatic 115, 3) := by decide +kernel
theorem dL_bridge_769 : decode cL_bridge 769 = .ok (.ifCond .eq 48, 3) := by decide +kernel
theorem dL_bridge_772 : decode cL_bridge 772 = .ok (.aload_n 0, 1) := by decide +kernel
theorem dL_bridge_773 : decode cL_bridge 773 = .ok (.iconst 0, 1) := by decide +kernel
theorem dL_bridge_774 : decode cL_bridge 774 = .ok (.iconst 0, 1) := by decide +kernel
theorem dL_bridge_775 : decode cL_bridge 775 = .ok (.sipush 206, 3) := by decide +kernel
theorem dL_bridge_778 : decode cL_bridge 778 = .ok (.iconst 0, 1) := by decide +kernel
theorem dL_bridge_779 : decode cL_bridge 779 = .ok (.invokestatic 127, 3) := by decide +kernel
theorem dL_bridge_782 : decode cL_bridge 782 = .ok (.ifCond .eq 35, 3) := by decide +kernel
theorem dL_bridge_785 : decode cL_bridge 785 = .ok (.aload_n 0, 1) := by decide +kernel
theorem dL_bridge_786 : decode cL_bridge 786 = .ok (.iconst 1, 1) := by decide +kernel
theorem dL_bridge_787 : decode cL_bridge 787 = .ok (.iconst 0, 1) := by decide +kernel
theorem dL_bridge_788 : decode cL_bridge 788 = .ok (.iconst 0, 1) := by decide +kernel
theorem dL_bridge_789 : decode cL_bridge 789 = .ok (.sipush (-206), 3) := by decide +kernel
theorem dL_bridge_792 : decode cL_bridge 792 = .ok (.invokestatic 127, 3) := by decide +kernel
theorem dL_bridge_795 : decode cL_bridge 795 = .ok (.ifCond .eq 22, 3) := by decide +kernel
theorem dL_bridge_798 : decode cL_bridge 798 = .ok (.aload_n 0, 1) := by decide +kernel
theorem dL_bridge_799 : decode cL_bridge 799 = .ok (.iconst 2, 1) := by decide +kernel
theorem dL_bridge_800 : decode cL_bridge 800 = .ok (.iconst 0, 1) := by decide +kernel
theorem dL_bridge_801 : decode cL_bridge 801 = .ok (.iconst 0, 1) := by decide +kernel
theorem dL_bridge_802 : decode cL_bridge 802 = .ok (.iconst 0, 1) := by decide +kernel
theorem dL_bridge_803 : decode cL_bridge 803 = .ok (.invokestatic 127, 3) := by decide +kernel
theorem dL_bridge_806 : decode cL_bridge 806 = .ok (.ifCond .eq 11, 3) := by decide +kernel
theorem dL_bridge_809 : decode cL_bridge 809 = .ok (.aload_n 0, 1) := by decide +kernel
theorem dL_bridge_810 : decode cL_bridge 810 = .ok (.iconst 1, 1) := by decide +kernel
theorem dL_bridge_811 : decode cL_bridge 811 = .ok (.invokestatic 111, 3) := by decide +kernel
theorem dL_bridge_814 : decode cL_bridge 814 = .ok (.ifCond .ne 5, 3) := by decide +kernel
theorem dL_bridge_817 : decode cL_bridge 817 = .ok (.iconst 0, 1) := by decide +kernel
theorem dL_bridge_818 : decode cL_bridge 818 = .ok (.ireturn, 1) := by decide +kernel
theorem dL_bridge_819 : decode cL_bridge 819 = .ok (.aload_n 0, 1) := by decide +kernel
theorem dL_bridge_820 : decode cL_bridge 820 = .ok (.bipush 29, 2) := by decide +kernel
theorem dL_bridge_822 : decode cL_bridge 822 = .ok (.invokevirtual 51, 3) := by decide +kernel
theorem dL_bridge_825 : decode cL_bridge 825 = .ok (.ifCond .ne 427, 3) := by decide +kernel
theorem dL_bridge_828 : decode cL_bridge 828 = .ok (.aload_n 0, 1) := by decide +kernel
theorem dL_bridge_829 : decode cL_bridge 829 = .ok (.iconst 1, 1) := by decide +kernel
theorem dL_bridge_830 : decode cL_bridge 830 = .ok (.invokevirtual 51, 3) := by decide +kernel
theorem dL_bridge_833 : decode cL_bridge 833 = .ok (.iconst 1, 1) := by decide +kernel
theorem dL_bridge_834 : decode cL_bridge 834 = .ok (.if_icmp .ne 418, 3) := by decide +kernel
theorem dL_bridge_837 : decode cL_bridge 837 = .ok (.aload_n 0, 1) := by decide +kernel
theorem dL_bridge_838 : decode cL_bridge 838 = .ok (.iconst 1, 1) := by decide +kernel
theorem dL_bridge_839 : decode cL_bridge 839 = .ok (.iconst 2, 1) := by decide +kernel
theorem dL_bridge_840 : decode cL_bridge 840 = .ok (.iconst 3, 1) := by decide +kernel
theorem dL_bridge_841 : decode cL_bridge 841 = .ok (.sipush 2000, 3) := by decide +kernel
theorem dL_bridge_844 : decode cL_bridge 844 = .ok (.bipush 19, 2) := by decide +kernel
theorem dL_bridge_846 : decode cL_bridge 846 = .ok (.invokevirtual 7, 3) := by decide +kernel
theorem dL_bridge_849 : decode cL_bridge 849 = .ok (.iconst 1, 1) := by decide +kernel
theorem dL_bridge_850 : decode cL_bridge 850 = .ok (.if_icmp .ne 402, 3) := by decide +kernel
theorem dL_bridge_853 : decode cL_bridge 853 = .ok (.aload_n 0, 1) := by decide +kernel
theorem dL_bridge_854 : decode cL_bridge 854 = .ok (.iconst 1, 1) := by decide +kernel
theorem dL_bridge_855 : decode cL_bridge 855 = .ok (.invokevirtual 17, 3) := by decide +kernel
theorem dL_bridge_858 : decode cL_bridge 858 = .ok (.sipush 2380, 3) := by decide +kernel
theorem dL_bridge_861 : decode cL_bridge 861 = .ok (.if_icmp .ne 391, 3) := by decide +kernel
theorem dL_bridge_864 : decode cL_bridge 864 = .ok (.aload_n 0, 1) := by decide +kernel
theorem dL_bridge_865 : decode cL_bridge 865 = .ok (.iconst 1, 1) := by decide +kernel
theorem dL_bridge_866 : decode cL_bridge 866 = .ok (.iconst 1, 1) := by decide +kernel
theorem dL_bridge_867 : decode cL_bridge 867 = .ok (.sipush 174, 3) := by decide +kernel
theorem dL_bridge_870 : decode cL_bridge 870 = .ok (.iconst 0, 1) := by decide +kernel
theorem dL_bridge_871 : decode cL_bridge 871 = .ok (.invokestatic 127, 3) := by decide +kernel
theorem dL_bridge_874 : decode cL_bridge 874 = .ok (.ifCond .eq 378, 3) := by decide +kernel
theorem dL_bridge_877 : decode cL_bridge 877 = .ok (.aload_n 0, 1) := by decide +kernel
theorem dL_bridge_878 : decode cL_bridge 878 = .ok (.iconst 1, 1) := by decide +kernel
theorem dL_bridge_879 : decode cL_bridge 879 = .ok (.iconst 0, 1) := by decide +kernel
theorem dL_bridge_880 : decode cL_bridge 880 = .ok (.iconst 0, 1) := by decide +kernel
theorem dL_bridge_881 : decode cL_bridge 881 = .ok (.sipush (-206), 3) := by decide +kernel
theorem dL_bridge_884 : decode cL_bridge 884 = .ok (.invokestatic 127, 3) := by decide +kernel
theorem dL_bridge_887 : decode cL_bridge 887 = .ok (.ifCond .eq 365, 3) := by decide +kernel
theorem dL_bridge_890 : decode cL_bridge 890 = .ok (.aload_n 0, 1) := by decide +kernel
theorem dL_bridge_891 : decode cL_bridge 891 = .ok (.iconst 2, 1) := by decide +kernel
theorem dL_bridge_892 : decode cL_bridge 892 = .ok (.iconst 1, 1) := by decide +kernel
theorem dL_bridge_893 : decode cL_bridge 893 = .ok (.iconst 0, 1) := by decide +kernel
theorem dL_bridge_894 : decode cL_bridge 894 = .ok (.sipush (-380), 3) := by decide +kernel
theorem dL_bridge_897 : decode cL_bridge 897 = .ok (.invokestatic 127, 3) := by decide +kernel
theorem dL_bridge_900 : decode cL_bridge 900 = .ok (.ifCond .eq 352, 3) := by decide +kernel
theorem dL_bridge_903 : decode cL_bridge 903 = .ok (.aload_n 0, 1) := by decide +kernel
theorem dL_bridge_904 : decode cL_bridge 904 = .ok (.iconst 0, 1) := by decide +kernel
theorem dL_bridge_905 : decode cL_bridge 905 = .ok (.iconst 1, 1) := by decide +kernel
theorem dL_bridge_906 : decode cL_bridge 906 = .ok (.iconst 0, 1) := by decide +kernel
theorem dL_bridge_907 : decode cL_bridge 907 = .ok (.iconst 0, 1) := by decide +kernel
theorem dL_bridge_908 : decode cL_bridge 908 = .ok (.invokestatic 127, 3) := by decide +kernel
theorem dL_bridge_911 : decode cL_bridge 911 = .ok (.ifCond .eq 341, 3) := by decide +kernel
theorem dL_bridge_914 : decode cL_bridge 914 = .ok (.aload_n 0, 1) := by decide +kernel
theorem dL_bridge_915 : decode cL_bridge 915 = .ok (.iconst 3, 1) := by decide +kernel
theorem dL_bridge_916 : decode cL_bridge 916 = .ok (.invokevirtual 78, 3) := by decide +kernel
theorem dL_bridge_919 : decode cL_bridge 919 = .ok (.sipush 380, 3) := by decide +kernel
theorem dL_bridge_922 : decode cL_bridge 922 = .ok (.if_icmp .ne 330, 3) := by decide +kernel
theorem dL_bridge_925 : decode cL_bridge 925 = .ok (.aload_n 0, 1) := by decide +kernel
theorem dL_bridge_926 : decode cL_bridge 926 = .ok (.iconst 2, 1) := by decide +kernel
theorem dL_bridge_927 : decode cL_bridge 927 = .ok (.invokevirtual 78, 3) := by decide +kernel
theorem dL_bridge_930 : decode cL_bridge 930 = .ok (.ifCond .ne 322, 3) := by decide +kernel
theorem dL_bridge_933 : decode cL_bridge 933 = .ok (.aload_n 0, 1) := by decide +kernel
theorem dL_bridge_934 : decode cL_bridge 934 = .ok (.iconst 3, 1) := by decide +kernel
theorem dL_bridge_935 : decode cL_bridge 935 = .ok (.iconst 4, 1) := by decide +kernel
theorem dL_bridge_936 : decode cL_bridge 936 = .ok (.iconst 0, 1) := by decide +kernel
theorem dL_bridge_937 : decode cL_bridge 937 = .ok (.bipush 50, 2) := by decide +kernel
theorem dL_bridge_939 : decode cL_bridge 939 = .ok (.bipush 7, 2) := by decide +kernel
theorem dL_bridge_941 : decode cL_bridge 941 = .ok (.invokevirtual 7, 3) := by decide +kernel
theorem dL_bridge_944 : decode cL_bridge 944 = .ok (.iconst 2, 1) := by decide +kernel
theorem dL_bridge_945 : decode cL_bridge 945 = .ok (.if_icmp .ne 307, 3) := by decide +kernel
theorem dL_bridge_948 : decode cL_bridge 948 = .ok (.aload_n 0, 1) := by decide +kernel
theorem dL_bridge_949 : decode cL_bridge 949 = .ok (.iconst 3, 1) := by decide +kernel
theorem dL_bridge_950 : decode cL_bridge 950 = .ok (.iconst 1, 1) := by decide +kernel
theorem dL_bridge_951 : decode cL_bridge 951 = .ok (.iconst 3, 1) := by decide +kernel
theorem dL_bridge_952 : decode cL_bridge 952 = .ok (.iconst 0, 1) := by decide +kernel
theorem dL_bridge_953 : decode cL_bridge 953 = .ok (.invokestatic 127, 3) := by decide +kernel
theorem dL_bridge_956 : decode cL_bridge 956 = .ok (.ifCond .eq 296, 3) := by decide +kernel
theorem dL_bridge_959 : decode cL_bridge 959 = .ok (.aload_n 0, 1) := by decide +kernel
theorem dL_bridge_960 : decode cL_bridge 960 = .ok (.iconst 2, 1) := by decide +kernel
theorem dL_bridge_961 : decode cL_bridge 961 = .ok (.invokevirtual 21, 3) := by decide +kernel
theorem dL_bridge_964 : decode cL_bridge 964 = .ok (.bipush 53, 2) := by decide +kernel
theorem dL_bridge_966 : decode cL_bridge 966 = .ok (.if_icmp .ne 286, 3) := by decide +kernel
theorem dL_bridge_969 : decode cL_bridge 969 = .ok (.aload_n 0, 1) := by decide +kernel
theorem dL_bridge_970 : decode cL_bridge 970 = .ok (.iconst 3, 1) := by decide +kernel
theorem dL_bridge_971 : decode cL_bridge 971 = .ok (.iconst 1, 1) := by decide +kernel
theorem dL_bridge_972 : decode cL_bridge 972 = .ok (.iconst 0, 1) := by decide +kernel
theorem dL_bridge_973 : decode cL_bridge 973 = .ok (.iconst 0, 1) := by decide +kernel
theorem dL_bridge_974 : decode cL_bridge 974 = .ok (.invokestatic 127, 3) := by decide +kernel
theorem dL_bridge_977 : decode cL_bridge 977 = .ok (.ifCond .eq 275, 3) := by decide +kernel
theorem dL_bridge_980 : decode cL_bridge 980 = .ok (.aload_n 0, 1) := by decide +kernel
theorem dL_bridge_981 : decode cL_bridge 981 = .ok (.iconst 2, 1) := by decide +kernel
theorem dL_bridge_982 : decode cL_bridge 982 = .ok (.iconst 2, 1) := by decide +kernel
theorem dL_bridge_983 : decode cL_bridge 983 = .ok (.iconst 3, 1) := by decide +kernel
theorem dL_bridge_984 : decode cL_bridge 984 = .ok (.bipush 53, 2) := by decide +kernel
theorem dL_bridge_986 : decode cL_bridge 986 = .ok (.iconst 0, 1) := by decide +kernel
theorem dL_bridge_987 : decode cL_bridge 987 = .ok (.iconst 0, 1) := by decide +kernel
theorem dL_bridge_988 : decode cL_bridge 988 = .ok (.invokestatic 115, 3) := by decide +kernel
theorem dL_bridge_991 : decode cL_bridge 991 = .ok (.ifCond .eq 261, 3) := by decide +kernel
theorem dL_bridge_994 : decode cL_bridge 994 = .ok (.aload_n 0, 1) := by decide +kernel
theorem dL_bridge_995 : decode cL_bridge 995 = .ok (.iconst 4, 1) := by decide +kernel
theorem dL_bridge_996 : decode cL_bridge 996 = .ok (.iconst 2, 1) := by decide +kernel
theorem dL_bridge_997 : decode cL_bridge 997 = .ok (.iconst 0, 1) := by decide +kernel
theorem dL_bridge_998 : decode cL_bridge 998 = .ok (.iconst 1, 1) := by decide +kernel
theorem dL_bridge_999 : decode cL_bridge 999 = .ok (.iconst 0, 1) := by decide +kernel
theorem dL_bridge_1000 : decode cL_bridge 1000 = .ok (.iconst 0, 1) := by decide +kernel
theorem dL_bridge_1001 : decode cL_bridge 1001 = .ok (.invokestatic 99, 3) := by decide +kernel
theorem dL_bridge_1004 : decode cL_bridge 1004 = .ok (.ldc 89, 2) := by decide +kernel
theorem dL_bridge_1006 : decode cL_bridge 1006 = .ok (.if_icmp .ne 246, 3) := by decide +kernel
theorem dL_bridge_1009 : decode cL_bridge 1009 = .ok (.aload_n 0, 1) := by decide +kernel
theorem dL_bridge_1010 : decode cL_bridge 1010 = .ok (.iconst 3, 1) := by decide +kernel
theorem dL_bridge_1011 : decode cL_bridge 1011 = .ok (.iconst 4, 1) := by decide +kernel
theorem dL_bridge_1012 : decode cL_bridge 1012 = .ok (.iconst 0, 1) := by decide +kernel
theorem dL_bridge_1013 : decode cL_bridge 1013 = .ok (.bipush 100, 2) := by decide +kernel
theorem dL_bridge_1015 : decode cL_bridge 1015 = .ok (.bipush 19, 2) := by decide +kernel
theorem dL_bridge_1017 : decode cL_bridge 1017 = .ok (.invokevirtual 7, 3) := by decide +kernel
theorem dL_bridge_1020 : decode cL_bridge 1020 = .ok (.iconst 3, 1) := by decide +kernel
theorem dL_bridge_1021 : decode cL_bridge 1021 = .ok (.if_icmp .ne 231, 3) := by decide +kernel
theorem dL_bridge_1024 : decode cL_bridge 1024 = .ok (.aload_n 0, 1) := by decide +kernel
theorem dL_bridge_1025 : decode cL_bridge 1025 = .ok (.iconst 3, 1) := by decide +kernel
theorem dL_bridge_1026 : decode cL_bridge 1026 = .ok (.iconst 1, 1) := by decide +kernel
theorem dL_bridge_1027 : decode cL_bridge 1027 = .ok (.bipush 19, 2) := by decide +kernel
theorem dL_bridge_1029 : decode cL_bridge 1029 = .ok (.iconst 0, 1) := by decide +kernel
theorem dL_bridge_1030 : decode cL_bridge 1030 = .ok (.invokestatic 127, 3) := by decide +kernel
theorem dL_bridge_1033 : decode cL_bridge 1033 = .ok (.ifCond .eq 219, 3) := by decide +kernel
theorem dL_bridge_1036 : decode cL_bridge 1036 = .ok (.aload_n 0, 1) := by decide +kernel
theorem dL_bridge_1037 : decode cL_bridge 1037 = .ok (.iconst 4, 1) := by decide +kernel
theorem dL_bridge_1038 : decode cL_bridge 1038 = .ok (.iconst 1, 1) := by decide +kernel
theorem dL_bridge_1039 : decode cL_bridge 1039 = .ok (.iconst 0, 1) := by decide +kernel
theorem dL_bridge_1040 : decode cL_bridge 1040 = .ok (.iconst 0, 1) := by decide +kernel
theorem dL_bridge_1041 : decode cL_bridge 1041 = .ok (.invokestatic 127, 3) := by decide +kernel
theorem dL_bridge_1044 : decode cL_bridge 1044 = .ok (.ifCond .eq 208, 3) := by decide +kernel
theorem dL_bridge_1047 : decode cL_bridge 1047 = .ok (.aload_n 0, 1) := by decide +kernel
theorem dL_bridge_1048 : decode cL_bridge 1048 = .ok (.iconst 3, 1) := by decide +kernel
theorem dL_bridge_1049 : decode cL_bridge 1049 = .ok (.iconst 0, 1) := by decide +kernel
theorem dL_bridge_1050 : decode cL_bridge 1050 = .ok (.bipush 50, 2) := by decide +kernel
theorem dL_bridge_1052 : decode cL_bridge 1052 = .ok (.invokevirtual 24, 3) := by decide +kernel
theorem dL_bridge_1055 : decode cL_bridge 1055 = .ok (.bipush 50, 2) := by decide +kernel
theorem dL_bridge_1057 : decode cL_bridge 1057 = .ok (.if_icmp .ne 195, 3) := by decide +kernel
theorem dL_bridge_1060 : decode cL_bridge 1060 = .ok (.aload_n 0, 1) := by decide +kernel
theorem dL_bridge_1061 : decode cL_bridge 1061 = .ok (.iconst 1, 1) := by decide +kernel
theorem dL_bridge_1062 : decode cL_bridge 1062 = .ok (.iconst 3, 1) := by decide +kernel
theorem dL_bridge_1063 : decode cL_bridge 1063 = .ok (.iconst 5, 1) := by decide +kernel
theorem dL_bridge_1064 : decode cL_bridge 1064 = .ok (.iconst 0, 1) := by decide +kernel
theorem dL_bridge_1065 : decode cL_bridge 1065 = .ok (.iconst 0, 1) := by decide +kernel
theorem dL_bridge_1066 : decode cL_bridge 1066 = .ok (.iconst 0, 1) := by decide +kernel
theorem dL_bridge_1067 : decode cL_bridge 1067 = .ok (.invokestatic 99, 3) := by decide +kernel
theorem dL_bridge_1070 : decode cL_bridge 1070 = .ok (.ldc 89, 2) := by decide +kernel
theorem dL_bridge_1072 : decode cL_bridge 1072 = .ok (.if_icmp .ne 180, 3) := by decide +kernel
theorem dL_bridge_1075 : decode cL_bridge 1075 = .ok (.aload_n 0, 1) := by decide +kernel
theorem dL_bridge_1076 : decode cL_bridge 1076 = .ok (.iconst 4, 1) := by decide +kernel
theorem dL_bridge_1077 : decode cL_bridge 1077 = .ok (.iconst 3, 1) := by decide +kernel
theorem dL_bridge_1078 : decode cL_bridge 1078 = .ok (.iconst 0, 1) := by decide +kernel
theorem dL_bridge_1079 : decode cL_bridge 1079 = .ok (.bipush 51, 2) := by decide +kernel
theorem dL_bridge_1081 : decode cL_bridge 1081 = .ok (.iconst 0, 1) := by decide +kernel
theorem dL_bridge_1082 : decode cL_bridge 1082 = .ok (.iconst 0, 1) := by decide +kernel
theorem dL_bridge_1083 : decode cL_bridge 1083 = .ok (.invokestatic 99, 3) := by decide +kernel
theorem dL_bridge_1086 : decode cL_bridge 1086 = .ok (.ldc 86, 2) := by decide +kernel
theorem dL_bridge_1088 : decode cL_bridge 1088 = .ok (.if_icmp .ne 164, 3) := by decide +kernel
theorem dL_bridge_1091 : decode cL_bridge 1091 = .ok (.aload_n 0, 1) := by decide +kernel
theorem dL_bridge_1092 : decode cL_bridge 1092 = .ok (.iconst 3, 1) := by decide +kernel
theorem dL_bridge_1093 : decode cL_bridge 1093 = .ok (.iconst 1, 1) := by decide +kernel
theorem dL_bridge_1094 : decode cL_bridge 1094 = .ok (.bipush 9, 2) := by decide +kernel
theorem dL_bridge_1096 : decode cL_bridge 1096 = .ok (.iconst 0, 1) := by decide +kernel
theorem dL_bridge_1097 : decode cL_bridge 1097 = .ok (.invokestatic 127, 3) := by decide +kernel
theorem dL_bridge_1100 : decode cL_bridge 1100 = .ok (.ifCond .eq 152, 3) := by decide +kernel
theorem dL_bridge_1103 : decode cL_bridge 1103 = .ok (.aload_n 0, 1) := by decide +kernel
theorem dL_bridge_1104 : decode cL_bridge 1104 = .ok (.iconst 4, 1) := by decide +kernel
theorem dL_bridge_1105 : decode cL_bridge 1105 = .ok (.iconst 1, 1) := by decide +kernel
theorem dL_bridge_1106 : decode cL_bridge 1106 = .ok (.iconst 0, 1) := by decide +kernel
theorem dL_bridge_1107 : decode cL_bridge 1107 = .ok (.iconst 0, 1) := by decide +kernel
theorem dL_bridge_1108 : decode cL_bridge 1108 = .ok (.invokestatic 127, 3) := by decide +kernel
theorem dL_bridge_1111 : decode cL_bridge 1111 = .ok (.ifCond .eq 141, 3) := by decide +kernel
theorem dL_bridge_1114 : decode cL_bridge 1114 = .ok (.aload_n 0, 1) := by decide +kernel
theorem dL_bridge_1115 : decode cL_bridge 1115 = .ok (.iconst 3, 1) := by decide +kernel
theorem dL_bridge_1116 : decode cL_bridge 1116 = .ok (.invokevirtual 17, 3) := by decide +kernel
theorem dL_bridge_1119 : decode cL_bridge 1119 = .ok (.bipush 59, 2) := by decide +kernel
theorem dL_bridge_1121 : decode cL_bridge 1121 = .ok (.if_icmp .ne 131, 3) := by decide +kernel
theorem dL_bridge_1124 : decode cL_bridge 1124 = .ok (.aload_n 0, 1) := by decide +kernel
theorem dL_bridge_1125 : decode cL_bridge 1125 = .ok (.iconst 4, 1) := by decide +kernel
theorem dL_bridge_1126 : decode cL_bridge 1126 = .ok (.iconst 1, 1) := by decide +kernel
theorem dL_bridge_1127 : decode cL_bridge 1127 = .ok (.iconst 0, 1) := by decide +kernel
theorem dL_bridge_1128 : decode cL_bridge 1128 = .ok (.bipush (-9), 2) := by decide +kernel
theorem dL_bridge_1130 : decode cL_bridge 1130 = .ok (.invokestatic 127, 3) := by decide +kernel
theorem dL_bridge_1133 : decode cL_bridge 1133 = .ok (.ifCond .eq 119, 3) := by decide +kernel
theorem dL_bridge_1136 : decode cL_bridge 1136 = .ok (.aload_n 0, 1) := by decide +kernel
theorem dL_bridge_1137 : decode cL_bridge 1137 = .ok (.iconst 3, 1) := by decide +kernel
theorem dL_bridge_1138 : decode cL_bridge 1138 = .ok (.iconst 0, 1) := by decide +kernel
theorem dL_bridge_1139 : decode cL_bridge 1139 = .ok (.invokevirtual 27, 3) := by decide +kernel
theorem dL_bridge_1142 : decode cL_bridge 1142 = .ok (.ifCond .ne 110, 3) := by decide +kernel
theorem dL_bridge_1145 : decode cL_bridge 1145 = .ok (.aload_n 0, 1) := by decide +kernel
theorem dL_bridge_1146 : decode cL_bridge 1146 = .ok (.iconst 4, 1) := by decide +kernel
theorem dL_bridge_1147 : decode cL_bridge 1147 = .ok (.invokevirtual 69, 3) := by decide +kernel
theorem dL_bridge_1150 : decode cL_bridge 1150 = .ok (.ifCond .ne 102, 3) := by decide +kernel
theorem dL_bridge_1153 : decode cL_bridge 1153 = .ok (.aload_n 0, 1) := by decide +kernel
theorem dL_bridge_1154 : decode cL_bridge 1154 = .ok (.iconst 3, 1) := by decide +kernel
theorem dL_bridge_1155 : decode cL_bridge 1155 = .ok (.iconst 0, 1) := by decide +kernel
theorem dL_bridge_1156 : decode cL_bridge 1156 = .ok (.iconst 1, 1) := by decide +kernel
theorem dL_bridge_1157 : decode cL_bridge 1157 = .ok (.invokevirtual 31, 3) := by decide +kernel
theorem dL_bridge_1160 : decode cL_bridge 1160 = .ok (.ifCond .ne 92, 3) := by decide +kernel
theorem dL_bridge_1163 : decode cL_bridge 1163 = .ok (.aload_n 0, 1) := by decide +kernel
theorem dL_bridge_1164 : decode cL_bridge 1164 = .ok (.iconst 3, 1) := by decide +kernel
theorem dL_bridge_1165 : decode cL_bridge 1165 = .ok (.iconst 1, 1) := by decide +kernel
theorem dL_bridge_1166 : decode cL_bridge 1166 = .ok (.iconst 3, 1) := by decide +kernel
theorem dL_bridge_1167 : decode cL_bridge 1167 = .ok (.iconst 0, 1) := by decide +kernel
theorem dL_bridge_1168 : decode cL_bridge 1168 = .ok (.iconst 0, 1) := by decide +kernel
theorem dL_bridge_1169 : decode cL_bridge 1169 = .ok (.iconst 0, 1) := by decide +kernel
theorem dL_bridge_1170 : decode cL_bridge 1170 = .ok (.invokestatic 115, 3) := by decide +kernel
theorem dL_bridge_1173 : decode cL_bridge 1173 = .ok (.ifCond .eq 79, 3) := by decide +kernel
theorem dL_bridge_1176 : decode cL_bridge 1176 = .ok (.aload_n 0, 1) := by decide +kernel
theorem dL_bridge_1177 : decode cL_bridge 1177 = .ok (.iconst 3, 1) := by decide +kernel
theorem dL_bridge_1178 : decode cL_bridge 1178 = .ok (.iconst 1, 1) := by decide +kernel
theorem dL_bridge_1179 : decode cL_bridge 1179 = .ok (.iconst 0, 1) := by decide +kernel
theorem dL_bridge_1180 : decode cL_bridge 1180 = .ok (.iconst 0, 1) := by decide +kernel
theorem dL_bridge_1181 : decode cL_bridge 1181 = .ok (.invokestatic 127, 3) := by decide +kernel
theorem dL_bridge_1184 : decode cL_bridge 1184 = .ok (.ifCond .eq 68, 3) := by decide +kernel
theorem dL_bridge_1187 : decode cL_bridge 1187 = .ok (.aload_n 0, 1) := by decide +kernel
theorem dL_bridge_1188 : decode cL_bridge 1188 = .ok (.iconst 4, 1) := by decide +kernel
theorem dL_bridge_1189 : decode cL_bridge 1189 = .ok (.iconst 1, 1) := by decide +kernel
theorem dL_bridge_1190 : decode cL_bridge 1190 = .ok (.iconst 0, 1) := by decide +kernel
theorem dL_bridge_1191 : decode cL_bridge 1191 = .ok (.iconst 0, 1) := by decide +kernel
theorem dL_bridge_1192 : decode cL_bridge 1192 = .ok (.invokestatic 127, 3) := by decide +kernel
theorem dL_bridge_1195 : decode cL_bridge 1195 = .ok (.ifCond .eq 57, 3) := by decide +kernel
theorem dL_bridge_1198 : decode cL_bridge 1198 = .ok (.aload_n 0, 1) := by decide +kernel
theorem dL_bridge_1199 : decode cL_bridge 1199 = .ok (.iconst 5, 1) := by decide +kernel
theorem dL_bridge_1200 : decode cL_bridge 1200 = .ok (.iconst 3, 1) := by decide +kernel
theorem dL_bridge_1201 : decode cL_bridge 1201 = .ok (.iconst 0, 1) := by decide +kernel
theorem dL_bridge_1202 : decode cL_bridge 1202 = .ok (.iconst 0, 1) := by decide +kernel
theorem dL_bridge_1203 : decode cL_bridge 1203 = .ok (.iconst 0, 1) := by decide +kernel
theorem dL_bridge_1204 : decode cL_bridge 1204 = .ok (.iconst 0, 1) := by decide +kernel
theorem dL_bridge_1205 : decode cL_bridge 1205 = .ok (.invokestatic 99, 3) := by decide +kernel
theorem dL_bridge_1208 : decode cL_bridge 1208 = .ok (.ldc 89, 2) := by decide +kernel
theorem dL_bridge_1210 : decode cL_bridge 1210 = .ok (.if_icmp .ne 42, 3) := by decide +kernel
theorem dL_bridge_1213 : decode cL_bridge 1213 = .ok (.aload_n 0, 1) := by decide +kernel
theorem dL_bridge_1214 : decode cL_bridge 1214 = .ok (.iconst 5, 1) := by decide +kernel
theorem dL_bridge_1215 : decode cL_bridge 1215 = .ok (.iconst 0, 1) := by decide +kernel
theorem dL_bridge_1216 : decode cL_bridge 1216 = .ok (.iconst 3, 1) := by decide +kernel
theorem dL_bridge_1217 : decode cL_bridge 1217 = .ok (.bipush 10, 2) := by decide +kernel
theorem dL_bridge_1219 : decode cL_bridge 1219 = .ok (.bipush 7, 2) := by decide +kernel
theorem dL_bridge_1221 : decode cL_bridge 1221 = .ok (.invokevirtual 7, 3) := by decide +kernel
theorem dL_bridge_1224 : decode cL_bridge 1224 = .ok (.iconst 4, 1) := by decide +kernel
theorem dL_bridge_1225 : decode cL_bridge 1225 = .ok (.if_icmp .ne 27, 3) := by decide +kernel
theorem dL_bridge_1228 : decode cL_bridge 1228 = .ok (.aload_n 0, 1) := by decide +kernel
theorem dL_bridge_1229 : decode cL_bridge 1229 = .ok (.iconst 1, 1) := by decide +kernel
theorem dL_bridge_1230 : decode cL_bridge 1230 = .ok (.invokevirtual 51, 3) := by decide +kernel
theorem dL_bridge_1233 : decode cL_bridge 1233 = .ok (.iconst 1, 1) := by decide +kernel
theorem dL_bridge_1234 : decode cL_bridge 1234 = .ok (.if_icmp .ne 18, 3) := by decide +kernel
theorem dL_bridge_1237 : decode cL_bridge 1237 = .ok (.aload_n 0, 1) := by decide +kernel
theorem dL_bridge_1238 : decode cL_bridge 1238 = .ok (.iconst 1, 1) := by decide +kernel
theorem dL_bridge_1239 : decode cL_bridge 1239 = .ok (.iconst 4, 1) := by decide +kernel
theorem dL_bridge_1240 : decode cL_bridge 1240 = .ok (.iconst 5, 1) := by decide +kernel
theorem dL_bridge_1241 : decode cL_bridge 1241 = .ok (.iconst 0, 1) := by decide +kernel
theorem dL_bridge_1242 : decode cL_bridge 1242 = .ok (.iconst 0, 1) := by decide +kernel
theorem dL_bridge_1243 : decode cL_bridge 1243 = .ok (.iconst 0, 1) := by decide +kernel
theorem dL_bridge_1244 : decode cL_bridge 1244 = .ok (.invokestatic 99, 3) := by decide +kernel
theorem dL_bridge_1247 : decode cL_bridge 1247 = .ok (.ldc 89, 2) := by decide +kernel
theorem dL_bridge_1249 : decode cL_bridge 1249 = .ok (.if_icmp .eq 5, 3) := by decide +kernel
theorem dL_bridge_1252 : decode cL_bridge 1252 = .ok (.iconst 0, 1) := by decide +kernel
theorem dL_bridge_1253 : decode cL_bridge 1253 = .ok (.ireturn, 1) := by decide +kernel
theorem dL_bridge_1254 : decode cL_bridge 1254 = .ok (.aload_n 0, 1) := by decide +kernel
theorem dL_bridge_1255 : decode cL_bridge 1255 = .ok (.iconst 1, 1) := by decide +kernel
theorem dL_bridge_1256 : decode cL_bridge 1256 = .ok (.iconst 0, 1) := by decide +kernel
theorem dL_bridge_1257 : decode cL_bridge 1257 = .ok (.sipush 416, 3) := by decide +kernel
theorem dL_bridge_1260 : decode cL_bridge 1260 = .ok (.invokevirtual 48, 3) := by decide +kernel
theorem dL_bridge_1263 : decode cL_bridge 1263 = .ok (.ifCond .ne 137, 3) := by decide +kernel
theorem dL_bridge_1266 : decode cL_bridge 1266 = .ok (.aload_n 0, 1) := by decide +kernel
theorem dL_bridge_1267 : decode cL_bridge 1267 = .ok (.iconst 0, 1) := by decide +kernel
theorem dL_bridge_1268 : decode cL_bridge 1268 = .ok (.iconst 1, 1) := by decide +kernel
theorem dL_bridge_1269 : decode cL_bridge 1269 = .ok (.iconst 0, 1) := by decide +kernel
theorem dL_bridge_1270 : decode cL_bridge 1270 = .ok (.sipush 1705, 3) := by decide +kernel
theorem dL_bridge_1273 : decode cL_bridge 1273 = .ok (.iconst 0, 1) := by decide +kernel
theorem dL_bridge_1274 : decode cL_bridge 1274 = .ok (.sipush 1705, 3) := by decide +kernel
theorem dL_bridge_1277 : decode cL_bridge 1277 = .ok (.invokestatic 115, 3) := by decide +kernel
theorem dL_bridge_1280 : decode cL_bridge 1280 = .ok (.ifCond .eq 120, 3) := by decide +kernel
theorem dL_bridge_1283 : decode cL_bridge 1283 = .ok (.aload_n 0, 1) := by decide +kernel
theorem dL_bridge_1284 : decode cL_bridge 1284 = .ok (.iconst 0, 1) := by decide +kernel
theorem dL_bridge_1285 : decode cL_bridge 1285 = .ok (.iconst 1, 1) := by decide +kernel
theorem dL_bridge_1286 : decode cL_bridge 1286 = .ok (.sipush 500, 3) := by decide +kernel
theorem dL_bridge_1289 : decode cL_bridge 1289 = .ok (.invokevirtual 24, 3) := by decide +kernel
theorem dL_bridge_1292 : decode cL_bridge 1292 = .ok (.ifCond .ne 108, 3) := by decide +kernel
theorem dL_bridge_1295 : decode cL_bridge 1295 = .ok (.aload_n 0, 1) := by decide +kernel
theorem dL_bridge_1296 : decode cL_bridge 1296 = .ok (.iconst 0, 1) := by decide +kernel
theorem dL_bridge_1297 : decode cL_bridge 1297 = .ok (.iconst 1, 1) := by decide +kernel
theorem dL_bridge_1298 : decode cL_bridge 1298 = .ok (.iconst 0, 1) := by decide +kernel
theorem dL_bridge_1299 : decode cL_bridge 1299 = .ok (.sipush 1170, 3) := by decide +kernel
theorem dL_bridge_1302 : decode cL_bridge 1302 = .ok (.iconst 0, 1) := by decide +kernel
theorem dL_bridge_1303 : decode cL_bridge 1303 = .ok (.sipush 1705, 3) := by decide +kernel
theorem dL_bridge_1306 : decode cL_bridge 1306 = .ok (.invokestatic 115, 3) := by decide +kernel
theorem dL_bridge_1309 : decode cL_bridge 1309 = .ok (.ifCond .eq 91, 3) := by decide +kernel
theorem dL_bridge_1312 : decode cL_bridge 1312 = .ok (.aload_n 0, 1) := by decide +kernel
theorem dL_bridge_1313 : decode cL_bridge 1313 = .ok (.bipush 60, 2) := by decide +kernel
theorem dL_bridge_1315 : decode cL_bridge 1315 = .ok (.invokevirtual 51, 3) := by decide +kernel
theorem dL_bridge_1318 : decode cL_bridge 1318 = .ok (.iconst 3, 1) := by decide +kernel
theorem dL_bridge_1319 : decode cL_bridge 1319 = .ok (.if_icmp .ne 81, 3) := by decide +kernel
theorem dL_bridge_1322 : decode cL_bridge 1322 = .ok (.aload_n 0, 1) := by decide +kernel
theorem dL_bridge_1323 : decode cL_bridge 1323 = .ok (.iconst 1, 1) := by decide +kernel
theorem dL_bridge_1324 : decode cL_bridge 1324 = .ok (.iconst 1, 1) := by decide +kernel
theorem dL_bridge_1325 : decode cL_bridge 1325 = .ok (.sipush 209, 3) := by decide +kernel
theorem dL_bridge_1328 : decode cL_bridge 1328 = .ok (.iconst 0, 1) := by decide +kernel
theorem dL_bridge_1329 : decode cL_bridge 1329 = .ok (.invokestatic 127, 3) := by decide +kernel
theorem dL_bridge_1332 : decode cL_bridge 1332 = .ok (.ifCond .eq 68, 3) := by decide +kernel
theorem dL_bridge_1335 : decode cL_bridge 1335 = .ok (.aload_n 0, 1) := by decide +kernel
theorem dL_bridge_1336 : decode cL_bridge 1336 = .ok (.iconst 0, 1) := by decide +kernel
theorem dL_bridge_1337 : decode cL_bridge 1337 = .ok (.iconst 1, 1) := by decide +kernel
theorem dL_bridge_1338 : decode cL_bridge 1338 = .ok (.iconst 0, 1) := by decide +kernel
theorem dL_bridge_1339 : decode cL_bridge 1339 = .ok (.bipush (-35), 2) := by decide +kernel
theorem dL_bridge_1341 : decode cL_bridge 1341 = .ok (.invokestatic 127, 3) := by decide +kernel
theorem dL_bridge_1344 : decode cL_bridge 1344 = .ok (.ifCond .eq 56, 3) := by decide +kernel
theorem dL_bridge_1347 : decode cL_bridge 1347 = .ok (.aload_n 0, 1) := by decide +kernel
theorem dL_bridge_1348 : decode cL_bridge 1348 = .ok (.iconst 0, 1) := by decide +kernel
theorem dL_bridge_1349 : decode cL_bridge 1349 = .ok (.iconst 3, 1) := by decide +kernel
theorem dL_bridge_1350 : decode cL_bridge 1350 = .ok (.iconst 0, 1) := by decide +kernel
theorem dL_bridge_1351 : decode cL_bridge 1351 = .ok (.bipush (-35), 2) := by decide +kernel
theorem dL_bridge_1353 : decode cL_bridge 1353 = .ok (.invokestatic 127, 3) := by decide +kernel
theorem dL_bridge_1356 : decode cL_bridge 1356 = .ok (.ifCond .eq 44, 3) := by decide +kernel
theorem dL_bridge_1359 : decode cL_bridge 1359 = .ok (.aload_n 0, 1) := by decide +kernel
theorem dL_bridge_1360 : decode cL_bridge 1360 = .ok (.iconst 3, 1) := by decide +kernel
theorem dL_bridge_1361 : decode cL_bridge 1361 = .ok (.invokevirtual 78, 3) := by decide +kernel
theorem dL_bridge_1364 : decode cL_bridge 1364 = .ok (.sipush 380, 3) := by decide +kernel
theorem dL_bridge_1367 : decode cL_bridge 1367 = .ok (.if_icmp .ne 33, 3) := by decide +kernel
theorem dL_bridge_1370 : decode cL_bridge 1370 = .ok (.aload_n 0, 1) := by decide +kernel
theorem dL_bridge_1371 : decode cL_bridge 1371 = .ok (.iconst 5, 1) := by decide +kernel
theorem dL_bridge_1372 : decode cL_bridge 1372 = .ok (.invokestatic 111, 3) := by decide +kernel
theorem dL_bridge_1375 : decode cL_bridge 1375 = .ok (.ifCond .eq 25, 3) := by decide +kernel
theorem dL_bridge_1378 : decode cL_bridge 1378 = .ok (.invokestatic 131, 3) := by decide +kernel
theorem dL_bridge_1381 : decode cL_bridge 1381 = .ok (.ifCond .eq 19, 3) := by decide +kernel
theorem dL_bridge_1384 : decode cL_bridge 1384 = .ok (.invokestatic 135, 3) := by decide +kernel
theorem dL_bridge_1387 : decode cL_bridge 1387 = .ok (.ifCond .eq 13, 3) := by decide +kernel
theorem dL_bridge_1390 : decode cL_bridge 1390 = .ok (.invokestatic 138, 3) := by decide +kernel
theorem dL_bridge_1393 : decode cL_bridge 1393 = .ok (.ifCond .eq 7, 3) := by decide +kernel
theorem dL_bridge_1396 : decode cL_bridge 1396 = .ok (.iconst 1, 1) := by decide +kernel
theorem dL_bridge_1397 : decode cL_bridge 1397 = .ok (.goto 4, 3) := by decide +kernel
theorem dL_bridge_1400 : decode cL_bridge 1400 = .ok (.iconst 0, 1) := by decide +kernel
theorem dL_bridge_1401 : decode cL_bridge 1401 = .ok (.ireturn, 1) := by decide +kernel
