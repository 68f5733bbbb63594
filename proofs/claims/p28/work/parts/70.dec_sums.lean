theorem dL_sums_0 : decode cL_sums 0 = .ok (.new 8, 3) := by decide +kernel
theorem dL_sums_3 : decode cL_sums 3 = .ok (.dup, 1) := by decide +kernel
theorem dL_sums_4 : decode cL_sums 4 = .ok (.invokespecial 110, 3) := by decide +kernel
theorem dL_sums_7 : decode cL_sums 7 = .ok (.astore_n 0, 1) := by decide +kernel
theorem dL_sums_8 : decode cL_sums 8 = .ok (.aload_n 0, 1) := by decide +kernel
theorem dL_sums_9 : decode cL_sums 9 = .ok (.iconst 2, 1) := by decide +kernel
theorem dL_sums_10 : decode cL_sums 10 = .ok (.iconst 3, 1) := by decide +kernel
theorem dL_sums_11 : decode cL_sums 11 = .ok (.iconst 1, 1) := by decide +kernel
theorem dL_sums_12 : decode cL_sums 12 = .ok (.bipush 100, 2) := by decide +kernel
theorem dL_sums_14 : decode cL_sums 14 = .ok (.bipush 19, 2) := by decide +kernel
theorem dL_sums_16 : decode cL_sums 16 = .ok (.invokevirtual 7, 3) := by decide +kernel
theorem dL_sums_19 : decode cL_sums 19 = .ok (.ifCond .ne 294, 3) := by decide +kernel
theorem dL_sums_22 : decode cL_sums 22 = .ok (.aload_n 0, 1) := by decide +kernel
theorem dL_sums_23 : decode cL_sums 23 = .ok (.iconst 2, 1) := by decide +kernel
theorem dL_sums_24 : decode cL_sums 24 = .ok (.iconst 3, 1) := by decide +kernel
theorem dL_sums_25 : decode cL_sums 25 = .ok (.iconst 1, 1) := by decide +kernel
theorem dL_sums_26 : decode cL_sums 26 = .ok (.bipush 119, 2) := by decide +kernel
theorem dL_sums_28 : decode cL_sums 28 = .ok (.iconst 0, 1) := by decide +kernel
theorem dL_sums_29 : decode cL_sums 29 = .ok (.invokevirtual 7, 3) := by decide +kernel
theorem dL_sums_32 : decode cL_sums 32 = .ok (.iconst 1, 1) := by decide +kernel
theorem dL_sums_33 : decode cL_sums 33 = .ok (.if_icmp .ne 280, 3) := by decide +kernel
theorem dL_sums_36 : decode cL_sums 36 = .ok (.aload_n 0, 1) := by decide +kernel
theorem dL_sums_37 : decode cL_sums 37 = .ok (.iconst 2, 1) := by decide +kernel
theorem dL_sums_38 : decode cL_sums 38 = .ok (.iconst 4, 1) := by decide +kernel
theorem dL_sums_39 : decode cL_sums 39 = .ok (.iconst 1, 1) := by decide +kernel
theorem dL_sums_40 : decode cL_sums 40 = .ok (.bipush 100, 2) := by decide +kernel
theorem dL_sums_42 : decode cL_sums 42 = .ok (.bipush 19, 2) := by decide +kernel
theorem dL_sums_44 : decode cL_sums 44 = .ok (.invokevirtual 7, 3) := by decide +kernel
theorem dL_sums_47 : decode cL_sums 47 = .ok (.iconst 2, 1) := by decide +kernel
theorem dL_sums_48 : decode cL_sums 48 = .ok (.if_icmp .ne 265, 3) := by decide +kernel
theorem dL_sums_51 : decode cL_sums 51 = .ok (.aload_n 0, 1) := by decide +kernel
theorem dL_sums_52 : decode cL_sums 52 = .ok (.iconst 1, 1) := by decide +kernel
theorem dL_sums_53 : decode cL_sums 53 = .ok (.invokevirtual 17, 3) := by decide +kernel
theorem dL_sums_56 : decode cL_sums 56 = .ok (.bipush 119, 2) := by decide +kernel
theorem dL_sums_58 : decode cL_sums 58 = .ok (.if_icmp .ne 255, 3) := by decide +kernel
theorem dL_sums_61 : decode cL_sums 61 = .ok (.aload_n 0, 1) := by decide +kernel
theorem dL_sums_62 : decode cL_sums 62 = .ok (.iconst 2, 1) := by decide +kernel
theorem dL_sums_63 : decode cL_sums 63 = .ok (.invokevirtual 17, 3) := by decide +kernel
theorem dL_sums_66 : decode cL_sums 66 = .ok (.bipush 119, 2) := by decide +kernel
theorem dL_sums_68 : decode cL_sums 68 = .ok (.if_icmp .ne 245, 3) := by decide +kernel
theorem dL_sums_71 : decode cL_sums 71 = .ok (.aload_n 0, 1) := by decide +kernel
theorem dL_sums_72 : decode cL_sums 72 = .ok (.bipush 11, 2) := by decide +kernel
theorem dL_sums_74 : decode cL_sums 74 = .ok (.iconst 3, 1) := by decide +kernel
theorem dL_sums_75 : decode cL_sums 75 = .ok (.iconst 2, 1) := by decide +kernel
theorem dL_sums_76 : decode cL_sums 76 = .ok (.bipush 118, 2) := by decide +kernel
theorem dL_sums_78 : decode cL_sums 78 = .ok (.iconst 0, 1) := by decide +kernel
theorem dL_sums_79 : decode cL_sums 79 = .ok (.iconst 0, 1) := by decide +kernel
theorem dL_sums_80 : decode cL_sums 80 = .ok (.invokestatic 99, 3) := by decide +kernel
theorem dL_sums_83 : decode cL_sums 83 = .ok (.ldc 89, 2) := by decide +kernel
theorem dL_sums_85 : decode cL_sums 85 = .ok (.if_icmp .ne 228, 3) := by decide +kernel
theorem dL_sums_88 : decode cL_sums 88 = .ok (.aload_n 0, 1) := by decide +kernel
theorem dL_sums_89 : decode cL_sums 89 = .ok (.iconst 3, 1) := by decide +kernel
theorem dL_sums_90 : decode cL_sums 90 = .ok (.iconst 2, 1) := by decide +kernel
theorem dL_sums_91 : decode cL_sums 91 = .ok (.bipush 119, 2) := by decide +kernel
theorem dL_sums_93 : decode cL_sums 93 = .ok (.invokevirtual 48, 3) := by decide +kernel
theorem dL_sums_96 : decode cL_sums 96 = .ok (.iconst 1, 1) := by decide +kernel
theorem dL_sums_97 : decode cL_sums 97 = .ok (.if_icmp .ne 216, 3) := by decide +kernel
theorem dL_sums_100 : decode cL_sums 100 = .ok (.aload_n 0, 1) := by decide +kernel
theorem dL_sums_101 : decode cL_sums 101 = .ok (.iconst 0, 1) := by decide +kernel
theorem dL_sums_102 : decode cL_sums 102 = .ok (.invokevirtual 17, 3) := by decide +kernel
theorem dL_sums_105 : decode cL_sums 105 = .ok (.bipush 119, 2) := by decide +kernel
theorem dL_sums_107 : decode cL_sums 107 = .ok (.if_icmp .ne 206, 3) := by decide +kernel
theorem dL_sums_110 : decode cL_sums 110 = .ok (.aload_n 0, 1) := by decide +kernel
theorem dL_sums_111 : decode cL_sums 111 = .ok (.iconst 0, 1) := by decide +kernel
theorem dL_sums_112 : decode cL_sums 112 = .ok (.iconst 5, 1) := by decide +kernel
theorem dL_sums_113 : decode cL_sums 113 = .ok (.iconst 1, 1) := by decide +kernel
theorem dL_sums_114 : decode cL_sums 114 = .ok (.iconst 0, 1) := by decide +kernel
theorem dL_sums_115 : decode cL_sums 115 = .ok (.invokevirtual 35, 3) := by decide +kernel
theorem dL_sums_118 : decode cL_sums 118 = .ok (.iconst 1, 1) := by decide +kernel
theorem dL_sums_119 : decode cL_sums 119 = .ok (.if_icmp .ne 194, 3) := by decide +kernel
theorem dL_sums_122 : decode cL_sums 122 = .ok (.aload_n 0, 1) := by decide +kernel
theorem dL_sums_123 : decode cL_sums 123 = .ok (.bipush 11, 2) := by decide +kernel
theorem dL_sums_125 : decode cL_sums 125 = .ok (.iconst 3, 1) := by decide +kernel
theorem dL_sums_126 : decode cL_sums 126 = .ok (.iconst 2, 1) := by decide +kernel
theorem dL_sums_127 : decode cL_sums 127 = .ok (.bipush 119, 2) := by decide +kernel
theorem dL_sums_129 : decode cL_sums 129 = .ok (.iconst 0, 1) := by decide +kernel
theorem dL_sums_130 : decode cL_sums 130 = .ok (.iconst 0, 1) := by decide +kernel
theorem dL_sums_131 : decode cL_sums 131 = .ok (.invokestatic 99, 3) := by decide +kernel
theorem dL_sums_134 : decode cL_sums 134 = .ok (.ldc 89, 2) := by decide +kernel
theorem dL_sums_136 : decode cL_sums 136 = .ok (.if_icmp .ne 177, 3) := by decide +kernel
theorem dL_sums_139 : decode cL_sums 139 = .ok (.aload_n 0, 1) := by decide +kernel
theorem dL_sums_140 : decode cL_sums 140 = .ok (.bipush 8, 2) := by decide +kernel
theorem dL_sums_142 : decode cL_sums 142 = .ok (.iconst 0, 1) := by decide +kernel
theorem dL_sums_143 : decode cL_sums 143 = .ok (.iconst 0, 1) := by decide +kernel
theorem dL_sums_144 : decode cL_sums 144 = .ok (.iconst 0, 1) := by decide +kernel
theorem dL_sums_145 : decode cL_sums 145 = .ok (.iconst 0, 1) := by decide +kernel
theorem dL_sums_146 : decode cL_sums 146 = .ok (.iconst 0, 1) := by decide +kernel
theorem dL_sums_147 : decode cL_sums 147 = .ok (.invokestatic 99, 3) := by decide +kernel
theorem dL_sums_150 : decode cL_sums 150 = .ok (.ldc 89, 2) := by decide +kernel
theorem dL_sums_152 : decode cL_sums 152 = .ok (.if_icmp .ne 161, 3) := by decide +kernel
theorem dL_sums_155 : decode cL_sums 155 = .ok (.aload_n 0, 1) := by decide +kernel
theorem dL_sums_156 : decode cL_sums 156 = .ok (.iconst 3, 1) := by decide +kernel
theorem dL_sums_157 : decode cL_sums 157 = .ok (.iconst 5, 1) := by decide +kernel
theorem dL_sums_158 : decode cL_sums 158 = .ok (.bipush 119, 2) := by decide +kernel
theorem dL_sums_160 : decode cL_sums 160 = .ok (.invokevirtual 48, 3) := by decide +kernel
theorem dL_sums_163 : decode cL_sums 163 = .ok (.ifCond .ne 150, 3) := by decide +kernel
theorem dL_sums_166 : decode cL_sums 166 = .ok (.aload_n 0, 1) := by decide +kernel
theorem dL_sums_167 : decode cL_sums 167 = .ok (.iconst 5, 1) := by decide +kernel
theorem dL_sums_168 : decode cL_sums 168 = .ok (.bipush 118, 2) := by decide +kernel
theorem dL_sums_170 : decode cL_sums 170 = .ok (.invokestatic 118, 3) := by decide +kernel
theorem dL_sums_173 : decode cL_sums 173 = .ok (.ifCond .eq 140, 3) := by decide +kernel
theorem dL_sums_176 : decode cL_sums 176 = .ok (.aload_n 0, 1) := by decide +kernel
theorem dL_sums_177 : decode cL_sums 177 = .ok (.iconst 2, 1) := by decide +kernel
theorem dL_sums_178 : decode cL_sums 178 = .ok (.bipush 120, 2) := by decide +kernel
theorem dL_sums_180 : decode cL_sums 180 = .ok (.invokestatic 118, 3) := by decide +kernel
theorem dL_sums_183 : decode cL_sums 183 = .ok (.ifCond .eq 130, 3) := by decide +kernel
theorem dL_sums_186 : decode cL_sums 186 = .ok (.aload_n 0, 1) := by decide +kernel
theorem dL_sums_187 : decode cL_sums 187 = .ok (.iconst 3, 1) := by decide +kernel
theorem dL_sums_188 : decode cL_sums 188 = .ok (.sipush (-238), 3) := by decide +kernel
theorem dL_sums_191 : decode cL_sums 191 = .ok (.invokestatic 118, 3) := by decide +kernel
theorem dL_sums_194 : decode cL_sums 194 = .ok (.ifCond .eq 119, 3) := by decide +kernel
theorem dL_sums_197 : decode cL_sums 197 = .ok (.aload_n 0, 1) := by decide +kernel
theorem dL_sums_198 : decode cL_sums 198 = .ok (.iconst 2, 1) := by decide +kernel
theorem dL_sums_199 : decode cL_sums 199 = .ok (.iconst 0, 1) := by decide +kernel
theorem dL_sums_200 : decode cL_sums 200 = .ok (.bipush 100, 2) := by decide +kernel
theorem dL_sums_202 : decode cL_sums 202 = .ok (.iconst 1, 1) := by decide +kernel
theorem dL_sums_203 : decode cL_sums 203 = .ok (.invokevirtual 35, 3) := by decide +kernel
theorem dL_sums_206 : decode cL_sums 206 = .ok (.bipush 119, 2) := by decide +kernel
theorem dL_sums_208 : decode cL_sums 208 = .ok (.if_icmp .ne 105, 3) := by decide +kernel
theorem dL_sums_211 : decode cL_sums 211 = .ok (.aload_n 0, 1) := by decide +kernel
theorem dL_sums_212 : decode cL_sums 212 = .ok (.iconst 2, 1) := by decide +kernel
theorem dL_sums_213 : decode cL_sums 213 = .ok (.iconst 0, 1) := by decide +kernel
theorem dL_sums_214 : decode cL_sums 214 = .ok (.bipush 99, 2) := by decide +kernel
theorem dL_sums_216 : decode cL_sums 216 = .ok (.invokevirtual 24, 3) := by decide +kernel
theorem dL_sums_219 : decode cL_sums 219 = .ok (.iconst 1, 1) := by decide +kernel
theorem dL_sums_220 : decode cL_sums 220 = .ok (.if_icmp .ne 93, 3) := by decide +kernel
theorem dL_sums_223 : decode cL_sums 223 = .ok (.aload_n 0, 1) := by decide +kernel
theorem dL_sums_224 : decode cL_sums 224 = .ok (.iconst 2, 1) := by decide +kernel
theorem dL_sums_225 : decode cL_sums 225 = .ok (.iconst 1, 1) := by decide +kernel
theorem dL_sums_226 : decode cL_sums 226 = .ok (.iconst 0, 1) := by decide +kernel
theorem dL_sums_227 : decode cL_sums 227 = .ok (.iconst 1, 1) := by decide +kernel
theorem dL_sums_228 : decode cL_sums 228 = .ok (.iconst 1, 1) := by decide +kernel
theorem dL_sums_229 : decode cL_sums 229 = .ok (.iconst 0, 1) := by decide +kernel
theorem dL_sums_230 : decode cL_sums 230 = .ok (.invokestatic 115, 3) := by decide +kernel
theorem dL_sums_233 : decode cL_sums 233 = .ok (.ifCond .eq 80, 3) := by decide +kernel
theorem dL_sums_236 : decode cL_sums 236 = .ok (.aload_n 0, 1) := by decide +kernel
theorem dL_sums_237 : decode cL_sums 237 = .ok (.iconst 2, 1) := by decide +kernel
theorem dL_sums_238 : decode cL_sums 238 = .ok (.invokevirtual 39, 3) := by decide +kernel
theorem dL_sums_241 : decode cL_sums 241 = .ok (.bipush 119, 2) := by decide +kernel
theorem dL_sums_243 : decode cL_sums 243 = .ok (.if_icmp .ne 70, 3) := by decide +kernel
theorem dL_sums_246 : decode cL_sums 246 = .ok (.aload_n 0, 1) := by decide +kernel
theorem dL_sums_247 : decode cL_sums 247 = .ok (.iconst 2, 1) := by decide +kernel
theorem dL_sums_248 : decode cL_sums 248 = .ok (.iconst 1, 1) := by decide +kernel
theorem dL_sums_249 : decode cL_sums 249 = .ok (.bipush 99, 2) := by decide +kernel
theorem dL_sums_251 : decode cL_sums 251 = .ok (.iconst 1, 1) := by decide +kernel
theorem dL_sums_252 : decode cL_sums 252 = .ok (.invokevirtual 35, 3) := by decide +kernel
theorem dL_sums_255 : decode cL_sums 255 = .ok (.ifCond .ne 58, 3) := by decide +kernel
theorem dL_sums_258 : decode cL_sums 258 = .ok (.aload_n 0, 1) := by decide +kernel
theorem dL_sums_259 : decode cL_sums 259 = .ok (.iconst 1, 1) := by decide +kernel
theorem dL_sums_260 : decode cL_sums 260 = .ok (.iconst 0, 1) := by decide +kernel
theorem dL_sums_261 : decode cL_sums 261 = .ok (.invokestatic 118, 3) := by decide +kernel
theorem dL_sums_264 : decode cL_sums 264 = .ok (.ifCond .eq 49, 3) := by decide +kernel
theorem dL_sums_267 : decode cL_sums 267 = .ok (.aload_n 0, 1) := by decide +kernel
theorem dL_sums_268 : decode cL_sums 268 = .ok (.iconst 2, 1) := by decide +kernel
theorem dL_sums_269 : decode cL_sums 269 = .ok (.iconst 3, 1) := by decide +kernel
theorem dL_sums_270 : decode cL_sums 270 = .ok (.invokevirtual 54, 3) := by decide +kernel
theorem dL_sums_273 : decode cL_sums 273 = .ok (.iconst 1, 1) := by decide +kernel
theorem dL_sums_274 : decode cL_sums 274 = .ok (.if_icmp .ne 39, 3) := by decide +kernel
theorem dL_sums_277 : decode cL_sums 277 = .ok (.aload_n 0, 1) := by decide +kernel
theorem dL_sums_278 : decode cL_sums 278 = .ok (.iconst 4, 1) := by decide +kernel
theorem dL_sums_279 : decode cL_sums 279 = .ok (.iconst 1, 1) := by decide +kernel
theorem dL_sums_280 : decode cL_sums 280 = .ok (.iconst 1, 1) := by decide +kernel
theorem dL_sums_281 : decode cL_sums 281 = .ok (.invokevirtual 48, 3) := by decide +kernel
theorem dL_sums_284 : decode cL_sums 284 = .ok (.iconst 2, 1) := by decide +kernel
theorem dL_sums_285 : decode cL_sums 285 = .ok (.if_icmp .ne 28, 3) := by decide +kernel
theorem dL_sums_288 : decode cL_sums 288 = .ok (.aload_n 0, 1) := by decide +kernel
theorem dL_sums_289 : decode cL_sums 289 = .ok (.iconst 1, 1) := by decide +kernel
theorem dL_sums_290 : decode cL_sums 290 = .ok (.iconst 1, 1) := by decide +kernel
theorem dL_sums_291 : decode cL_sums 291 = .ok (.invokestatic 118, 3) := by decide +kernel
theorem dL_sums_294 : decode cL_sums 294 = .ok (.ifCond .eq 19, 3) := by decide +kernel
theorem dL_sums_297 : decode cL_sums 297 = .ok (.aload_n 0, 1) := by decide +kernel
theorem dL_sums_298 : decode cL_sums 298 = .ok (.bipush 8, 2) := by decide +kernel
theorem dL_sums_300 : decode cL_sums 300 = .ok (.iconst 2, 1) := by decide +kernel
theorem dL_sums_301 : decode cL_sums 301 = .ok (.iconst 0, 1) := by decide +kernel
theorem dL_sums_302 : decode cL_sums 302 = .ok (.iconst 0, 1) := by decide +kernel
theorem dL_sums_303 : decode cL_sums 303 = .ok (.iconst 0, 1) := by decide +kernel
theorem dL_sums_304 : decode cL_sums 304 = .ok (.iconst 0, 1) := by decide +kernel
theorem dL_sums_305 : decode cL_sums 305 = .ok (.invokestatic 99, 3) := by decide +kernel
theorem dL_sums_308 : decode cL_sums 308 = .ok (.ldc 89, 2) := by decide +kernel
theorem dL_sums_310 : decode cL_sums 310 = .ok (.if_icmp .eq 5, 3) := by decide +kernel
theorem dL_sums_313 : decode cL_sums 313 = .ok (.iconst 0, 1) := by decide +kernel
theorem dL_sums_314 : decode cL_sums 314 = .ok (.ireturn, 1) := by decide +kernel
theorem dL_sums_315 : decode cL_sums 315 = .ok (.aload_n 0, 1) := by decide +kernel
theorem dL_sums_316 : decode cL_sums 316 = .ok (.iconst 3, 1) := by decide +kernel
theorem dL_sums_317 : decode cL_sums 317 = .ok (.iconst 4, 1) := by decide +kernel
theorem dL_sums_318 : decode cL_sums 318 = .ok (.iconst 1, 1) := by decide +kernel
theorem dL_sums_319 : decode cL_sums 319 = .ok (.bipush 100, 2) := by decide +kernel
theorem dL_sums_321 : decode cL_sums 321 = .ok (.bipush 7, 2) := by decide +kernel
theorem dL_sums_323 : decode cL_sums 323 = .ok (.invokevirtual 7, 3) := by decide +kernel
theorem dL_sums_326 : decode cL_sums 326 = .ok (.iconst 3, 1) := by decide +kernel
theorem dL_sums_327 : decode cL_sums 327 = .ok (.if_icmp .ne 165, 3) := by decide +kernel
theorem dL_sums_330 : decode cL_sums 330 = .ok (.aload_n 0, 1) := by decide +kernel
theorem dL_sums_331 : decode cL_sums 331 = .ok (.iconst 3, 1) := by decide +kernel
theorem dL_sums_332 : decode cL_sums 332 = .ok (.invokevirtual 17, 3) := by decide +kernel
theorem dL_sums_335 : decode cL_sums 335 = .ok (.bipush 107, 2) := by decide +kernel
theorem dL_sums_337 : decode cL_sums 337 = .ok (.if_icmp .ne 155, 3) := by decide +kernel
theorem dL_sums_340 : decode cL_sums 340 = .ok (.aload_n 0, 1) := by decide +kernel
theorem dL_sums_341 : decode cL_sums 341 = .ok (.iconst 1, 1) := by decide +kernel
theorem dL_sums_342 : decode cL_sums 342 = .ok (.invokevirtual 78, 3) := by decide +kernel
theorem dL_sums_345 : decode cL_sums 345 = .ok (.bipush 19, 2) := by decide +kernel
theorem dL_sums_347 : decode cL_sums 347 = .ok (.if_icmp .ne 145, 3) := by decide +kernel
theorem dL_sums_350 : decode cL_sums 350 = .ok (.aload_n 0, 1) := by decide +kernel
theorem dL_sums_351 : decode cL_sums 351 = .ok (.iconst 4, 1) := by decide +kernel
theorem dL_sums_352 : decode cL_sums 352 = .ok (.iconst 5, 1) := by decide +kernel
theorem dL_sums_353 : decode cL_sums 353 = .ok (.iconst 1, 1) := by decide +kernel
theorem dL_sums_354 : decode cL_sums 354 = .ok (.bipush 100, 2) := by decide +kernel
theorem dL_sums_356 : decode cL_sums 356 = .ok (.bipush 19, 2) := by decide +kernel
theorem dL_sums_358 : decode cL_sums 358 = .ok (.invokevirtual 7, 3) := by decide +kernel
theorem dL_sums_361 : decode cL_sums 361 = .ok (.iconst 4, 1) := by decide +kernel
theorem dL_sums_362 : decode cL_sums 362 = .ok (.if_icmp .ne 130, 3) := by decide +kernel
theorem dL_sums_365 : decode cL_sums 365 = .ok (.aload_n 0, 1) := by decide +kernel
theorem dL_sums_366 : decode cL_sums 366 = .ok (.iconst 4, 1) := by decide +kernel
theorem dL_sums_367 : decode cL_sums 367 = .ok (.invokevirtual 17, 3) := by decide +kernel
theorem dL_sums_370 : decode cL_sums 370 = .ok (.bipush 119, 2) := by decide +kernel
theorem dL_sums_372 : decode cL_sums 372 = .ok (.if_icmp .ne 120, 3) := by decide +kernel
theorem dL_sums_375 : decode cL_sums 375 = .ok (.aload_n 0, 1) := by decide +kernel
theorem dL_sums_376 : decode cL_sums 376 = .ok (.iconst 1, 1) := by decide +kernel
theorem dL_sums_377 : decode cL_sums 377 = .ok (.invokevirtual 78, 3) := by decide +kernel
theorem dL_sums_380 : decode cL_sums 380 = .ok (.bipush 31, 2) := by decide +kernel
theorem dL_sums_382 : decode cL_sums 382 = .ok (.if_icmp .ne 110, 3) := by decide +kernel
theorem dL_sums_385 : decode cL_sums 385 = .ok (.aload_n 0, 1) := by decide +kernel
theorem dL_sums_386 : decode cL_sums 386 = .ok (.iconst 3, 1) := by decide +kernel
theorem dL_sums_387 : decode cL_sums 387 = .ok (.iconst 4, 1) := by decide +kernel
theorem dL_sums_388 : decode cL_sums 388 = .ok (.iconst 1, 1) := by decide +kernel
theorem dL_sums_389 : decode cL_sums 389 = .ok (.sipush 158, 3) := by decide +kernel
theorem dL_sums_392 : decode cL_sums 392 = .ok (.bipush 19, 2) := by decide +kernel
theorem dL_sums_394 : decode cL_sums 394 = .ok (.invokevirtual 7, 3) := by decide +kernel
theorem dL_sums_397 : decode cL_sums 397 = .ok (.iconst 5, 1) := by decide +kernel
theorem dL_sums_398 : decode cL_sums 398 = .ok (.if_icmp .ne 94, 3) := by decide +kernel
theorem dL_sums_401 : decode cL_sums 401 = .ok (.aload_n 0, 1) := by decide +kernel
theorem dL_sums_402 : decode cL_sums 402 = .ok (.iconst 1, 1) := by decide +kernel
theorem dL_sums_403 : decode cL_sums 403 = .ok (.invokevirtual 78, 3) := by decide +kernel
theorem dL_sums_406 : decode cL_sums 406 = .ok (.bipush 31, 2) := by decide +kernel
theorem dL_sums_408 : decode cL_sums 408 = .ok (.if_icmp .ne 84, 3) := by decide +kernel
theorem dL_sums_411 : decode cL_sums 411 = .ok (.aload_n 0, 1) := by decide +kernel
theorem dL_sums_412 : decode cL_sums 412 = .ok (.iconst 5, 1) := by decide +kernel
theorem dL_sums_413 : decode cL_sums 413 = .ok (.invokevirtual 17, 3) := by decide +kernel
theorem dL_sums_416 : decode cL_sums 416 = .ok (.sipush 188, 3) := by decide +kernel
theorem dL_sums_419 : decode cL_sums 419 = .ok (.if_icmp .ne 73, 3) := by decide +kernel
theorem dL_sums_422 : decode cL_sums 422 = .ok (.aload_n 0, 1) := by decide +kernel
theorem dL_sums_423 : decode cL_sums 423 = .ok (.iconst 1, 1) := by decide +kernel
theorem dL_sums_424 : decode cL_sums 424 = .ok (.invokevirtual 78, 3) := by decide +kernel
theorem dL_sums_427 : decode cL_sums 427 = .ok (.bipush 42, 2) := by decide +kernel
theorem dL_sums_429 : decode cL_sums 429 = .ok (.if_icmp .ne 63, 3) := by decide +kernel
theorem dL_sums_432 : decode cL_sums 432 = .ok (.aload_n 0, 1) := by decide +kernel
theorem dL_sums_433 : decode cL_sums 433 = .ok (.iconst 0, 1) := by decide +kernel
theorem dL_sums_434 : decode cL_sums 434 = .ok (.iconst 0, 1) := by decide +kernel
theorem dL_sums_435 : decode cL_sums 435 = .ok (.bipush 100, 2) := by decide +kernel
theorem dL_sums_437 : decode cL_sums 437 = .ok (.invokevirtual 24, 3) := by decide +kernel
theorem dL_sums_440 : decode cL_sums 440 = .ok (.ifCond .ne 52, 3) := by decide +kernel
theorem dL_sums_443 : decode cL_sums 443 = .ok (.aload_n 0, 1) := by decide +kernel
theorem dL_sums_444 : decode cL_sums 444 = .ok (.iconst 1, 1) := by decide +kernel
theorem dL_sums_445 : decode cL_sums 445 = .ok (.invokevirtual 78, 3) := by decide +kernel
theorem dL_sums_448 : decode cL_sums 448 = .ok (.bipush 49, 2) := by decide +kernel
theorem dL_sums_450 : decode cL_sums 450 = .ok (.if_icmp .ne 42, 3) := by decide +kernel
theorem dL_sums_453 : decode cL_sums 453 = .ok (.aload_n 0, 1) := by decide +kernel
theorem dL_sums_454 : decode cL_sums 454 = .ok (.iconst 4, 1) := by decide +kernel
theorem dL_sums_455 : decode cL_sums 455 = .ok (.iconst 5, 1) := by decide +kernel
theorem dL_sums_456 : decode cL_sums 456 = .ok (.iconst 1, 1) := by decide +kernel
theorem dL_sums_457 : decode cL_sums 457 = .ok (.sipush 300, 3) := by decide +kernel
theorem dL_sums_460 : decode cL_sums 460 = .ok (.bipush 19, 2) := by decide +kernel
theorem dL_sums_462 : decode cL_sums 462 = .ok (.invokevirtual 7, 3) := by decide +kernel
theorem dL_sums_465 : decode cL_sums 465 = .ok (.bipush 6, 2) := by decide +kernel
theorem dL_sums_467 : decode cL_sums 467 = .ok (.if_icmp .ne 25, 3) := by decide +kernel
theorem dL_sums_470 : decode cL_sums 470 = .ok (.aload_n 0, 1) := by decide +kernel
theorem dL_sums_471 : decode cL_sums 471 = .ok (.bipush 6, 2) := by decide +kernel
theorem dL_sums_473 : decode cL_sums 473 = .ok (.invokevirtual 17, 3) := by decide +kernel
theorem dL_sums_476 : decode cL_sums 476 = .ok (.sipush 357, 3) := by decide +kernel
theorem dL_sums_479 : decode cL_sums 479 = .ok (.if_icmp .ne 13, 3) := by decide +kernel
theorem dL_sums_482 : decode cL_sums 482 = .ok (.aload_n 0, 1) := by decide +kernel
theorem dL_sums_483 : decode cL_sums 483 = .ok (.iconst 1, 1) := by decide +kernel
theorem dL_sums_484 : decode cL_sums 484 = .ok (.invokevirtual 78, 3) := by decide +kernel
theorem dL_sums_487 : decode cL_sums 487 = .ok (.bipush 76, 2) := by decide +kernel
theorem dL_sums_489 : decode cL_sums 489 = .ok (.if_icmp .eq 5, 3) := by decide +kernel
theorem dL_sums_492 : decode cL_sums 492 = .ok (.iconst 0, 1) := by decide +kernel
theorem dL_sums_493 : decode cL_sums 493 = .ok (.ireturn, 1) := by decide +kernel
theorem dL_sums_494 : decode cL_sums 494 = .ok (.aload_n 0, 1) := by decide +kernel
theorem dL_sums_495 : decode cL_sums 495 = .ok (.iconst 2, 1) := by decide +kernel
theorem dL_sums_496 : decode cL_sums 496 = .ok (.iconst 0, 1) := by decide +kernel
theorem dL_sums_497 : decode cL_sums 497 = .ok (.iconst 0, 1) := by decide +kernel
theorem dL_sums_498 : decode cL_sums 498 = .ok (.iconst 0, 1) := by decide +kernel
theorem dL_sums_499 : decode cL_sums 499 = .ok (.invokestatic 127, 3) := by decide +kernel
theorem dL_sums_502 : decode cL_sums 502 = .ok (.ifCond .eq 52, 3) := by decide +kernel
theorem dL_sums_505 : decode cL_sums 505 = .ok (.aload_n 0, 1) := by decide +kernel
theorem dL_sums_506 : decode cL_sums 506 = .ok (.iconst 3, 1) := by decide +kernel
theorem dL_sums_507 : decode cL_sums 507 = .ok (.iconst 0, 1) := by decide +kernel
theorem dL_sums_508 : decode cL_sums 508 = .ok (.bipush 37, 2) := by decide +kernel
theorem dL_sums_510 : decode cL_sums 510 = .ok (.iconst 0, 1) := by decide +kernel
theorem dL_sums_511 : decode cL_sums 511 = .ok (.invokestatic 127, 3) := by decide +kernel
theorem dL_sums_514 : decode cL_sums 514 = .ok (.ifCond .eq 40, 3) := by decide +kernel
theorem dL_sums_517 : decode cL_sums 517 = .ok (.aload_n 0, 1) := by decide +kernel
theorem dL_sums_518 : decode cL_sums 518 = .ok (.iconst 4, 1) := by decide +kernel
theorem dL_sums_519 : decode cL_sums 519 = .ok (.iconst 0, 1) := by decide +kernel
theorem dL_sums_520 : decode cL_sums 520 = .ok (.bipush 39, 2) := by decide +kernel
theorem dL_sums_522 : decode cL_sums 522 = .ok (.iconst 0, 1) := by decide +kernel
theorem dL_sums_523 : decode cL_sums 523 = .ok (.invokestatic 127, 3) := by decide +kernel
theorem dL_sums_526 : decode cL_sums 526 = .ok (.ifCond .eq 28, 3) := by decide +kernel
theorem dL_sums_529 : decode cL_sums 529 = .ok (.aload_n 0, 1) := by decide +kernel
theorem dL_sums_530 : decode cL_sums 530 = .ok (.iconst 5, 1) := by decide +kernel
theorem dL_sums_531 : decode cL_sums 531 = .ok (.iconst 0, 1) := by decide +kernel
theorem dL_sums_532 : decode cL_sums 532 = .ok (.iconst 0, 1) := by decide +kernel
theorem dL_sums_533 : decode cL_sums 533 = .ok (.bipush (-76), 2) := by decide +kernel
theorem dL_sums_535 : decode cL_sums 535 = .ok (.invokestatic 127, 3) := by decide +kernel
theorem dL_sums_538 : decode cL_sums 538 = .ok (.ifCond .eq 16, 3) := by decide +kernel
theorem dL_sums_541 : decode cL_sums 541 = .ok (.aload_n 0, 1) := by decide +kernel
theorem dL_sums_542 : decode cL_sums 542 = .ok (.bipush 7, 2) := by decide +kernel
theorem dL_sums_544 : decode cL_sums 544 = .ok (.invokestatic 111, 3) := by decide +kernel
theorem dL_sums_547 : decode cL_sums 547 = .ok (.ifCond .eq 7, 3) := by decide +kernel
theorem dL_sums_550 : decode cL_sums 550 = .ok (.iconst 1, 1) := by decide +kernel
theorem dL_sums_551 : decode cL_sums 551 = .ok (.goto 4, 3) := by decide +kernel
theorem dL_sums_554 : decode cL_sums 554 = .ok (.iconst 0, 1) := by decide +kernel
theorem dL_sums_555 : decode cL_sums 555 = .ok (.ireturn, 1) := by decide +kernel
