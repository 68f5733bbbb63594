theorem dL_act_0 : decode cL_act 0 = .ok (.iload_n 1, 1) := by decide +kernel
theorem dL_act_1 : decode cL_act 1 = .ok (.ifCond .ne 18, 3) := by decide +kernel
theorem dL_act_4 : decode cL_act 4 = .ok (.aload_n 0, 1) := by decide +kernel
theorem dL_act_5 : decode cL_act 5 = .ok (.iload_n 2, 1) := by decide +kernel
theorem dL_act_6 : decode cL_act 6 = .ok (.iload_n 3, 1) := by decide +kernel
theorem dL_act_7 : decode cL_act 7 = .ok (.iload 4, 2) := by decide +kernel
theorem dL_act_9 : decode cL_act 9 = .ok (.iload 5, 2) := by decide +kernel
theorem dL_act_11 : decode cL_act 11 = .ok (.iload 6, 2) := by decide +kernel
theorem dL_act_13 : decode cL_act 13 = .ok (.invokevirtual 7, 3) := by decide +kernel
theorem dL_act_16 : decode cL_act 16 = .ok (.goto 328, 3) := by decide +kernel
theorem dL_act_19 : decode cL_act 19 = .ok (.iload_n 1, 1) := by decide +kernel
theorem dL_act_20 : decode cL_act 20 = .ok (.iconst 1, 1) := by decide +kernel
theorem dL_act_21 : decode cL_act 21 = .ok (.if_icmp .ne 14, 3) := by decide +kernel
theorem dL_act_24 : decode cL_act 24 = .ok (.aload_n 0, 1) := by decide +kernel
theorem dL_act_25 : decode cL_act 25 = .ok (.iload_n 2, 1) := by decide +kernel
theorem dL_act_26 : decode cL_act 26 = .ok (.iload_n 3, 1) := by decide +kernel
theorem dL_act_27 : decode cL_act 27 = .ok (.iload 4, 2) := by decide +kernel
theorem dL_act_29 : decode cL_act 29 = .ok (.invokevirtual 13, 3) := by decide +kernel
theorem dL_act_32 : decode cL_act 32 = .ok (.goto 312, 3) := by decide +kernel
theorem dL_act_35 : decode cL_act 35 = .ok (.iload_n 1, 1) := by decide +kernel
theorem dL_act_36 : decode cL_act 36 = .ok (.iconst 2, 1) := by decide +kernel
theorem dL_act_37 : decode cL_act 37 = .ok (.if_icmp .ne 11, 3) := by decide +kernel
theorem dL_act_40 : decode cL_act 40 = .ok (.aload_n 0, 1) := by decide +kernel
theorem dL_act_41 : decode cL_act 41 = .ok (.iload_n 2, 1) := by decide +kernel
theorem dL_act_42 : decode cL_act 42 = .ok (.invokevirtual 17, 3) := by decide +kernel
theorem dL_act_45 : decode cL_act 45 = .ok (.goto 299, 3) := by decide +kernel
theorem dL_act_48 : decode cL_act 48 = .ok (.iload_n 1, 1) := by decide +kernel
theorem dL_act_49 : decode cL_act 49 = .ok (.iconst 3, 1) := by decide +kernel
theorem dL_act_50 : decode cL_act 50 = .ok (.if_icmp .ne 11, 3) := by decide +kernel
theorem dL_act_53 : decode cL_act 53 = .ok (.aload_n 0, 1) := by decide +kernel
theorem dL_act_54 : decode cL_act 54 = .ok (.iload_n 2, 1) := by decide +kernel
theorem dL_act_55 : decode cL_act 55 = .ok (.invokevirtual 21, 3) := by decide +kernel
theorem dL_act_58 : decode cL_act 58 = .ok (.goto 286, 3) := by decide +kernel
theorem dL_act_61 : decode cL_act 61 = .ok (.iload_n 1, 1) := by decide +kernel
theorem dL_act_62 : decode cL_act 62 = .ok (.iconst 4, 1) := by decide +kernel
theorem dL_act_63 : decode cL_act 63 = .ok (.if_icmp .ne 14, 3) := by decide +kernel
theorem dL_act_66 : decode cL_act 66 = .ok (.aload_n 0, 1) := by decide +kernel
theorem dL_act_67 : decode cL_act 67 = .ok (.iload_n 2, 1) := by decide +kernel
theorem dL_act_68 : decode cL_act 68 = .ok (.iload_n 3, 1) := by decide +kernel
theorem dL_act_69 : decode cL_act 69 = .ok (.iload 4, 2) := by decide +kernel
theorem dL_act_71 : decode cL_act 71 = .ok (.invokevirtual 24, 3) := by decide +kernel
theorem dL_act_74 : decode cL_act 74 = .ok (.goto 270, 3) := by decide +kernel
theorem dL_act_77 : decode cL_act 77 = .ok (.iload_n 1, 1) := by decide +kernel
theorem dL_act_78 : decode cL_act 78 = .ok (.iconst 5, 1) := by decide +kernel
theorem dL_act_79 : decode cL_act 79 = .ok (.if_icmp .ne 12, 3) := by decide +kernel
theorem dL_act_82 : decode cL_act 82 = .ok (.aload_n 0, 1) := by decide +kernel
theorem dL_act_83 : decode cL_act 83 = .ok (.iload_n 2, 1) := by decide +kernel
theorem dL_act_84 : decode cL_act 84 = .ok (.iload_n 3, 1) := by decide +kernel
theorem dL_act_85 : decode cL_act 85 = .ok (.invokevirtual 27, 3) := by decide +kernel
theorem dL_act_88 : decode cL_act 88 = .ok (.goto 256, 3) := by decide +kernel
theorem dL_act_91 : decode cL_act 91 = .ok (.iload_n 1, 1) := by decide +kernel
theorem dL_act_92 : decode cL_act 92 = .ok (.bipush 6, 2) := by decide +kernel
theorem dL_act_94 : decode cL_act 94 = .ok (.if_icmp .ne 23, 3) := by decide +kernel
theorem dL_act_97 : decode cL_act 97 = .ok (.aload_n 0, 1) := by decide +kernel
theorem dL_act_98 : decode cL_act 98 = .ok (.iload_n 2, 1) := by decide +kernel
theorem dL_act_99 : decode cL_act 99 = .ok (.iload_n 3, 1) := by decide +kernel
theorem dL_act_100 : decode cL_act 100 = .ok (.iload 4, 2) := by decide +kernel
theorem dL_act_102 : decode cL_act 102 = .ok (.iconst 1, 1) := by decide +kernel
theorem dL_act_103 : decode cL_act 103 = .ok (.if_icmp .ne 7, 3) := by decide +kernel
theorem dL_act_106 : decode cL_act 106 = .ok (.iconst 1, 1) := by decide +kernel
theorem dL_act_107 : decode cL_act 107 = .ok (.goto 4, 3) := by decide +kernel
theorem dL_act_110 : decode cL_act 110 = .ok (.iconst 0, 1) := by decide +kernel
theorem dL_act_111 : decode cL_act 111 = .ok (.invokevirtual 31, 3) := by decide +kernel
theorem dL_act_114 : decode cL_act 114 = .ok (.goto 230, 3) := by decide +kernel
theorem dL_act_117 : decode cL_act 117 = .ok (.iload_n 1, 1) := by decide +kernel
theorem dL_act_118 : decode cL_act 118 = .ok (.bipush 7, 2) := by decide +kernel
theorem dL_act_120 : decode cL_act 120 = .ok (.if_icmp .ne 25, 3) := by decide +kernel
theorem dL_act_123 : decode cL_act 123 = .ok (.aload_n 0, 1) := by decide +kernel
theorem dL_act_124 : decode cL_act 124 = .ok (.iload_n 2, 1) := by decide +kernel
theorem dL_act_125 : decode cL_act 125 = .ok (.iload_n 3, 1) := by decide +kernel
theorem dL_act_126 : decode cL_act 126 = .ok (.iload 4, 2) := by decide +kernel
theorem dL_act_128 : decode cL_act 128 = .ok (.iload 5, 2) := by decide +kernel
theorem dL_act_130 : decode cL_act 130 = .ok (.iconst 1, 1) := by decide +kernel
theorem dL_act_131 : decode cL_act 131 = .ok (.if_icmp .ne 7, 3) := by decide +kernel
theorem dL_act_134 : decode cL_act 134 = .ok (.iconst 1, 1) := by decide +kernel
theorem dL_act_135 : decode cL_act 135 = .ok (.goto 4, 3) := by decide +kernel
theorem dL_act_138 : decode cL_act 138 = .ok (.iconst 0, 1) := by decide +kernel
theorem dL_act_139 : decode cL_act 139 = .ok (.invokevirtual 35, 3) := by decide +kernel
theorem dL_act_142 : decode cL_act 142 = .ok (.goto 202, 3) := by decide +kernel
theorem dL_act_145 : decode cL_act 145 = .ok (.iload_n 1, 1) := by decide +kernel
theorem dL_act_146 : decode cL_act 146 = .ok (.bipush 8, 2) := by decide +kernel
theorem dL_act_148 : decode cL_act 148 = .ok (.if_icmp .ne 11, 3) := by decide +kernel
theorem dL_act_151 : decode cL_act 151 = .ok (.aload_n 0, 1) := by decide +kernel
theorem dL_act_152 : decode cL_act 152 = .ok (.iload_n 2, 1) := by decide +kernel
theorem dL_act_153 : decode cL_act 153 = .ok (.invokevirtual 39, 3) := by decide +kernel
theorem dL_act_156 : decode cL_act 156 = .ok (.goto 188, 3) := by decide +kernel
theorem dL_act_159 : decode cL_act 159 = .ok (.iload_n 1, 1) := by decide +kernel
theorem dL_act_160 : decode cL_act 160 = .ok (.bipush 9, 2) := by decide +kernel
theorem dL_act_162 : decode cL_act 162 = .ok (.if_icmp .ne 11, 3) := by decide +kernel
theorem dL_act_165 : decode cL_act 165 = .ok (.aload_n 0, 1) := by decide +kernel
theorem dL_act_166 : decode cL_act 166 = .ok (.iload_n 2, 1) := by decide +kernel
theorem dL_act_167 : decode cL_act 167 = .ok (.invokevirtual 42, 3) := by decide +kernel
theorem dL_act_170 : decode cL_act 170 = .ok (.goto 174, 3) := by decide +kernel
theorem dL_act_173 : decode cL_act 173 = .ok (.iload_n 1, 1) := by decide +kernel
theorem dL_act_174 : decode cL_act 174 = .ok (.bipush 10, 2) := by decide +kernel
theorem dL_act_176 : decode cL_act 176 = .ok (.if_icmp .ne 14, 3) := by decide +kernel
theorem dL_act_179 : decode cL_act 179 = .ok (.aload_n 0, 1) := by decide +kernel
theorem dL_act_180 : decode cL_act 180 = .ok (.iload_n 2, 1) := by decide +kernel
theorem dL_act_181 : decode cL_act 181 = .ok (.iload_n 3, 1) := by decide +kernel
theorem dL_act_182 : decode cL_act 182 = .ok (.iload 4, 2) := by decide +kernel
theorem dL_act_184 : decode cL_act 184 = .ok (.invokevirtual 45, 3) := by decide +kernel
theorem dL_act_187 : decode cL_act 187 = .ok (.goto 157, 3) := by decide +kernel
theorem dL_act_190 : decode cL_act 190 = .ok (.iload_n 1, 1) := by decide +kernel
theorem dL_act_191 : decode cL_act 191 = .ok (.bipush 11, 2) := by decide +kernel
theorem dL_act_193 : decode cL_act 193 = .ok (.if_icmp .ne 14, 3) := by decide +kernel
theorem dL_act_196 : decode cL_act 196 = .ok (.aload_n 0, 1) := by decide +kernel
theorem dL_act_197 : decode cL_act 197 = .ok (.iload_n 2, 1) := by decide +kernel
theorem dL_act_198 : decode cL_act 198 = .ok (.iload_n 3, 1) := by decide +kernel
theorem dL_act_199 : decode cL_act 199 = .ok (.iload 4, 2) := by decide +kernel
theorem dL_act_201 : decode cL_act 201 = .ok (.invokevirtual 48, 3) := by decide +kernel
theorem dL_act_204 : decode cL_act 204 = .ok (.goto 140, 3) := by decide +kernel
theorem dL_act_207 : decode cL_act 207 = .ok (.iload_n 1, 1) := by decide +kernel
theorem dL_act_208 : decode cL_act 208 = .ok (.bipush 12, 2) := by decide +kernel
theorem dL_act_210 : decode cL_act 210 = .ok (.if_icmp .ne 11, 3) := by decide +kernel
theorem dL_act_213 : decode cL_act 213 = .ok (.aload_n 0, 1) := by decide +kernel
theorem dL_act_214 : decode cL_act 214 = .ok (.iload_n 2, 1) := by decide +kernel
theorem dL_act_215 : decode cL_act 215 = .ok (.invokevirtual 51, 3) := by decide +kernel
theorem dL_act_218 : decode cL_act 218 = .ok (.goto 126, 3) := by decide +kernel
theorem dL_act_221 : decode cL_act 221 = .ok (.iload_n 1, 1) := by decide +kernel
theorem dL_act_222 : decode cL_act 222 = .ok (.bipush 13, 2) := by decide +kernel
theorem dL_act_224 : decode cL_act 224 = .ok (.if_icmp .ne 12, 3) := by decide +kernel
theorem dL_act_227 : decode cL_act 227 = .ok (.aload_n 0, 1) := by decide +kernel
theorem dL_act_228 : decode cL_act 228 = .ok (.iload_n 2, 1) := by decide +kernel
theorem dL_act_229 : decode cL_act 229 = .ok (.iload_n 3, 1) := by decide +kernel
theorem dL_act_230 : decode cL_act 230 = .ok (.invokevirtual 54, 3) := by decide +kernel
theorem dL_act_233 : decode cL_act 233 = .ok (.goto 111, 3) := by decide +kernel
theorem dL_act_236 : decode cL_act 236 = .ok (.iload_n 1, 1) := by decide +kernel
theorem dL_act_237 : decode cL_act 237 = .ok (.bipush 14, 2) := by decide +kernel
theorem dL_act_239 : decode cL_act 239 = .ok (.if_icmp .ne 14, 3) := by decide +kernel
theorem dL_act_242 : decode cL_act 242 = .ok (.aload_n 0, 1) := by decide +kernel
theorem dL_act_243 : decode cL_act 243 = .ok (.iload_n 2, 1) := by decide +kernel
theorem dL_act_244 : decode cL_act 244 = .ok (.iload_n 3, 1) := by decide +kernel
theorem dL_act_245 : decode cL_act 245 = .ok (.iload 4, 2) := by decide +kernel
theorem dL_act_247 : decode cL_act 247 = .ok (.invokevirtual 57, 3) := by decide +kernel
theorem dL_act_250 : decode cL_act 250 = .ok (.goto 94, 3) := by decide +kernel
theorem dL_act_253 : decode cL_act 253 = .ok (.iload_n 1, 1) := by decide +kernel
theorem dL_act_254 : decode cL_act 254 = .ok (.bipush 15, 2) := by decide +kernel
theorem dL_act_256 : decode cL_act 256 = .ok (.if_icmp .ne 11, 3) := by decide +kernel
theorem dL_act_259 : decode cL_act 259 = .ok (.aload_n 0, 1) := by decide +kernel
theorem dL_act_260 : decode cL_act 260 = .ok (.iload_n 2, 1) := by decide +kernel
theorem dL_act_261 : decode cL_act 261 = .ok (.invokevirtual 60, 3) := by decide +kernel
theorem dL_act_264 : decode cL_act 264 = .ok (.goto 80, 3) := by decide +kernel
theorem dL_act_267 : decode cL_act 267 = .ok (.iload_n 1, 1) := by decide +kernel
theorem dL_act_268 : decode cL_act 268 = .ok (.bipush 16, 2) := by decide +kernel
theorem dL_act_270 : decode cL_act 270 = .ok (.if_icmp .ne 11, 3) := by decide +kernel
theorem dL_act_273 : decode cL_act 273 = .ok (.aload_n 0, 1) := by decide +kernel
theorem dL_act_274 : decode cL_act 274 = .ok (.iload_n 2, 1) := by decide +kernel
theorem dL_act_275 : decode cL_act 275 = .ok (.invokevirtual 63, 3) := by decide +kernel
theorem dL_act_278 : decode cL_act 278 = .ok (.goto 66, 3) := by decide +kernel
theorem dL_act_281 : decode cL_act 281 = .ok (.iload_n 1, 1) := by decide +kernel
theorem dL_act_282 : decode cL_act 282 = .ok (.bipush 17, 2) := by decide +kernel
theorem dL_act_284 : decode cL_act 284 = .ok (.if_icmp .ne 11, 3) := by decide +kernel
theorem dL_act_287 : decode cL_act 287 = .ok (.aload_n 0, 1) := by decide +kernel
theorem dL_act_288 : decode cL_act 288 = .ok (.iload_n 2, 1) := by decide +kernel
theorem dL_act_289 : decode cL_act 289 = .ok (.invokevirtual 66, 3) := by decide +kernel
theorem dL_act_292 : decode cL_act 292 = .ok (.goto 52, 3) := by decide +kernel
theorem dL_act_295 : decode cL_act 295 = .ok (.iload_n 1, 1) := by decide +kernel
theorem dL_act_296 : decode cL_act 296 = .ok (.bipush 18, 2) := by decide +kernel
theorem dL_act_298 : decode cL_act 298 = .ok (.if_icmp .ne 11, 3) := by decide +kernel
theorem dL_act_301 : decode cL_act 301 = .ok (.aload_n 0, 1) := by decide +kernel
theorem dL_act_302 : decode cL_act 302 = .ok (.iload_n 2, 1) := by decide +kernel
theorem dL_act_303 : decode cL_act 303 = .ok (.invokevirtual 69, 3) := by decide +kernel
theorem dL_act_306 : decode cL_act 306 = .ok (.goto 38, 3) := by decide +kernel
theorem dL_act_309 : decode cL_act 309 = .ok (.iload_n 1, 1) := by decide +kernel
theorem dL_act_310 : decode cL_act 310 = .ok (.bipush 19, 2) := by decide +kernel
theorem dL_act_312 : decode cL_act 312 = .ok (.if_icmp .ne 12, 3) := by decide +kernel
theorem dL_act_315 : decode cL_act 315 = .ok (.aload_n 0, 1) := by decide +kernel
theorem dL_act_316 : decode cL_act 316 = .ok (.iload_n 2, 1) := by decide +kernel
theorem dL_act_317 : decode cL_act 317 = .ok (.iload_n 3, 1) := by decide +kernel
theorem dL_act_318 : decode cL_act 318 = .ok (.invokevirtual 72, 3) := by decide +kernel
theorem dL_act_321 : decode cL_act 321 = .ok (.goto 23, 3) := by decide +kernel
theorem dL_act_324 : decode cL_act 324 = .ok (.iload_n 1, 1) := by decide +kernel
theorem dL_act_325 : decode cL_act 325 = .ok (.bipush 20, 2) := by decide +kernel
theorem dL_act_327 : decode cL_act 327 = .ok (.if_icmp .ne 12, 3) := by decide +kernel
theorem dL_act_330 : decode cL_act 330 = .ok (.aload_n 0, 1) := by decide +kernel
theorem dL_act_331 : decode cL_act 331 = .ok (.iload_n 2, 1) := by decide +kernel
theorem dL_act_332 : decode cL_act 332 = .ok (.iload_n 3, 1) := by decide +kernel
theorem dL_act_333 : decode cL_act 333 = .ok (.invokevirtual 75, 3) := by decide +kernel
theorem dL_act_336 : decode cL_act 336 = .ok (.goto 8, 3) := by decide +kernel
theorem dL_act_339 : decode cL_act 339 = .ok (.aload_n 0, 1) := by decide +kernel
theorem dL_act_340 : decode cL_act 340 = .ok (.iload_n 2, 1) := by decide +kernel
theorem dL_act_341 : decode cL_act 341 = .ok (.invokevirtual 78, 3) := by decide +kernel
theorem dL_act_344 : decode cL_act 344 = .ok (.ireturn, 1) := by decide +kernel
theorem dL_act_345 : decode cL_act 345 = .ok (.astore 7, 2) := by decide +kernel
theorem dL_act_347 : decode cL_act 347 = .ok (.ldc 83, 2) := by decide +kernel
theorem dL_act_349 : decode cL_act 349 = .ok (.ireturn, 1) := by decide +kernel
theorem dL_act_350 : decode cL_act 350 = .ok (.astore 7, 2) := by decide +kernel
theorem dL_act_352 : decode cL_act 352 = .ok (.ldc 86, 2) := by decide +kernel
theorem dL_act_354 : decode cL_act 354 = .ok (.ireturn, 1) := by decide +kernel
theorem dL_act_355 : decode cL_act 355 = .ok (.astore 7, 2) := by decide +kernel
theorem dL_act_357 : decode cL_act 357 = .ok (.ldc 89, 2) := by decide +kernel
theorem dL_act_359 : decode cL_act 359 = .ok (.ireturn, 1) := by decide +kernel
theorem dL_types_0 : decode cL_types 0 = .ok (.aload_n 0, 1) := by decide +kernel
theorem dL_types_1 : decode cL_types 1 = .ok (.invokevirtual 105, 3) := by decide +kernel
theorem dL_types_4 : decode cL_types 4 = .ok (.pop, 1) := by decide +kernel
theorem dL_types_5 : decode cL_types 5 = .ok (.iconst 0, 1) := by decide +kernel
theorem dL_types_6 : decode cL_types 6 = .ok (.istore 4, 2) := by decide +kernel
theorem dL_types_8 : decode cL_types 8 = .ok (.iload 4, 2) := by decide +kernel
theorem dL_types_10 : decode cL_types 10 = .ok (.iload_n 3, 1) := by decide +kernel
theorem dL_types_11 : decode cL_types 11 = .ok (.if_icmp .ge 35, 3) := by decide +kernel
theorem dL_types_14 : decode cL_types 14 = .ok (.aload_n 0, 1) := by decide +kernel
theorem dL_types_15 : decode cL_types 15 = .ok (.lload_n 1, 1) := by decide +kernel
theorem dL_types_16 : decode cL_types 16 = .ok (.bipush 8, 2) := by decide +kernel
theorem dL_types_18 : decode cL_types 18 = .ok (.iload 4, 2) := by decide +kernel
theorem dL_types_20 : decode cL_types 20 = .ok (.imul, 1) := by decide +kernel
theorem dL_types_21 : decode cL_types 21 = .ok (.lushr, 1) := by decide +kernel
theorem dL_types_22 : decode cL_types 22 = .ok (.ldc2_w 108, 3) := by decide +kernel
theorem dL_types_25 : decode cL_types 25 = .ok (.land, 1) := by decide +kernel
theorem dL_types_26 : decode cL_types 26 = .ok (.l2i, 1) := by decide +kernel
theorem dL_types_27 : decode cL_types 27 = .ok (.invokevirtual 42, 3) := by decide +kernel
theorem dL_types_30 : decode cL_types 30 = .ok (.iload 4, 2) := by decide +kernel
theorem dL_types_32 : decode cL_types 32 = .ok (.iconst 1, 1) := by decide +kernel
theorem dL_types_33 : decode cL_types 33 = .ok (.iadd, 1) := by decide +kernel
theorem dL_types_34 : decode cL_types 34 = .ok (.if_icmp .eq 6, 3) := by decide +kernel
theorem dL_types_37 : decode cL_types 37 = .ok (.bipush (-99), 2) := by decide +kernel
theorem dL_types_39 : decode cL_types 39 = .ok (.ireturn, 1) := by decide +kernel
theorem dL_types_40 : decode cL_types 40 = .ok (.iinc 4 1, 3) := by decide +kernel
theorem dL_types_43 : decode cL_types 43 = .ok (.goto (-35), 3) := by decide +kernel
theorem dL_types_46 : decode cL_types 46 = .ok (.aload_n 0, 1) := by decide +kernel
theorem dL_types_47 : decode cL_types 47 = .ok (.invokevirtual 95, 3) := by decide +kernel
theorem dL_types_50 : decode cL_types 50 = .ok (.ireturn, 1) := by decide +kernel
theorem dL_about_0 : decode cL_about 0 = .ok (.aload_n 0, 1) := by decide +kernel
theorem dL_about_1 : decode cL_about 1 = .ok (.iload_n 1, 1) := by decide +kernel
theorem dL_about_2 : decode cL_about 2 = .ok (.iconst 0, 1) := by decide +kernel
theorem dL_about_3 : decode cL_about 3 = .ok (.invokevirtual 54, 3) := by decide +kernel
theorem dL_about_6 : decode cL_about 6 = .ok (.iload_n 2, 1) := by decide +kernel
theorem dL_about_7 : decode cL_about 7 = .ok (.if_icmp .ne 51, 3) := by decide +kernel
theorem dL_about_10 : decode cL_about 10 = .ok (.aload_n 0, 1) := by decide +kernel
theorem dL_about_11 : decode cL_about 11 = .ok (.iload_n 1, 1) := by decide +kernel
theorem dL_about_12 : decode cL_about 12 = .ok (.iconst 3, 1) := by decide +kernel
theorem dL_about_13 : decode cL_about 13 = .ok (.invokevirtual 54, 3) := by decide +kernel
theorem dL_about_16 : decode cL_about 16 = .ok (.iload_n 3, 1) := by decide +kernel
theorem dL_about_17 : decode cL_about 17 = .ok (.if_icmp .ne 41, 3) := by decide +kernel
theorem dL_about_20 : decode cL_about 20 = .ok (.aload_n 0, 1) := by decide +kernel
theorem dL_about_21 : decode cL_about 21 = .ok (.iload_n 1, 1) := by decide +kernel
theorem dL_about_22 : decode cL_about 22 = .ok (.iconst 4, 1) := by decide +kernel
theorem dL_about_23 : decode cL_about 23 = .ok (.invokevirtual 54, 3) := by decide +kernel
theorem dL_about_26 : decode cL_about 26 = .ok (.iload 4, 2) := by decide +kernel
theorem dL_about_28 : decode cL_about 28 = .ok (.if_icmp .ne 30, 3) := by decide +kernel
theorem dL_about_31 : decode cL_about 31 = .ok (.aload_n 0, 1) := by decide +kernel
theorem dL_about_32 : decode cL_about 32 = .ok (.iload_n 1, 1) := by decide +kernel
theorem dL_about_33 : decode cL_about 33 = .ok (.iconst 5, 1) := by decide +kernel
theorem dL_about_34 : decode cL_about 34 = .ok (.invokevirtual 54, 3) := by decide +kernel
theorem dL_about_37 : decode cL_about 37 = .ok (.iload 5, 2) := by decide +kernel
theorem dL_about_39 : decode cL_about 39 = .ok (.if_icmp .ne 19, 3) := by decide +kernel
theorem dL_about_42 : decode cL_about 42 = .ok (.aload_n 0, 1) := by decide +kernel
theorem dL_about_43 : decode cL_about 43 = .ok (.iload_n 1, 1) := by decide +kernel
theorem dL_about_44 : decode cL_about 44 = .ok (.bipush 6, 2) := by decide +kernel
theorem dL_about_46 : decode cL_about 46 = .ok (.invokevirtual 54, 3) := by decide +kernel
theorem dL_about_49 : decode cL_about 49 = .ok (.iload 6, 2) := by decide +kernel
theorem dL_about_51 : decode cL_about 51 = .ok (.if_icmp .ne 7, 3) := by decide +kernel
theorem dL_about_54 : decode cL_about 54 = .ok (.iconst 1, 1) := by decide +kernel
theorem dL_about_55 : decode cL_about 55 = .ok (.goto 4, 3) := by decide +kernel
theorem dL_about_58 : decode cL_about 58 = .ok (.iconst 0, 1) := by decide +kernel
theorem dL_about_59 : decode cL_about 59 = .ok (.ireturn, 1) := by decide +kernel
theorem dL_taxes_0 : decode cL_taxes 0 = .ok (.aload_n 0, 1) := by decide +kernel
theorem dL_taxes_1 : decode cL_taxes 1 = .ok (.iload_n 1, 1) := by decide +kernel
theorem dL_taxes_2 : decode cL_taxes 2 = .ok (.iload_n 2, 1) := by decide +kernel
theorem dL_taxes_3 : decode cL_taxes 3 = .ok (.invokevirtual 72, 3) := by decide +kernel
theorem dL_taxes_6 : decode cL_taxes 6 = .ok (.iload_n 3, 1) := by decide +kernel
theorem dL_taxes_7 : decode cL_taxes 7 = .ok (.if_icmp .ne 18, 3) := by decide +kernel
theorem dL_taxes_10 : decode cL_taxes 10 = .ok (.aload_n 0, 1) := by decide +kernel
theorem dL_taxes_11 : decode cL_taxes 11 = .ok (.iload_n 1, 1) := by decide +kernel
theorem dL_taxes_12 : decode cL_taxes 12 = .ok (.iload_n 2, 1) := by decide +kernel
theorem dL_taxes_13 : decode cL_taxes 13 = .ok (.invokevirtual 75, 3) := by decide +kernel
theorem dL_taxes_16 : decode cL_taxes 16 = .ok (.iload 4, 2) := by decide +kernel
theorem dL_taxes_18 : decode cL_taxes 18 = .ok (.if_icmp .ne 7, 3) := by decide +kernel
theorem dL_taxes_21 : decode cL_taxes 21 = .ok (.iconst 1, 1) := by decide +kernel
theorem dL_taxes_22 : decode cL_taxes 22 = .ok (.goto 4, 3) := by decide +kernel
theorem dL_taxes_25 : decode cL_taxes 25 = .ok (.iconst 0, 1) := by decide +kernel
theorem dL_taxes_26 : decode cL_taxes 26 = .ok (.ireturn, 1) := by decide +kernel
theorem dL_cash_0 : decode cL_cash 0 = .ok (.aload_n 0, 1) := by decide +kernel
theorem dL_cash_1 : decode cL_cash 1 = .ok (.iload_n 1, 1) := by decide +kernel
theorem dL_cash_2 : decode cL_cash 2 = .ok (.invokevirtual 60, 3) := by decide +kernel
theorem dL_cash_5 : decode cL_cash 5 = .ok (.iload_n 2, 1) := by decide +kernel
theorem dL_cash_6 : decode cL_cash 6 = .ok (.if_icmp .ne 16, 3) := by decide +kernel
theorem dL_cash_9 : decode cL_cash 9 = .ok (.aload_n 0, 1) := by decide +kernel
theorem dL_cash_10 : decode cL_cash 10 = .ok (.iload_n 1, 1) := by decide +kernel
theorem dL_cash_11 : decode cL_cash 11 = .ok (.invokevirtual 63, 3) := by decide +kernel
theorem dL_cash_14 : decode cL_cash 14 = .ok (.iload_n 2, 1) := by decide +kernel
theorem dL_cash_15 : decode cL_cash 15 = .ok (.if_icmp .ne 7, 3) := by decide +kernel
theorem dL_cash_18 : decode cL_cash 18 = .ok (.iconst 1, 1) := by decide +kernel
theorem dL_cash_19 : decode cL_cash 19 = .ok (.goto 4, 3) := by decide +kernel
theorem dL_cash_22 : decode cL_cash 22 = .ok (.iconst 0, 1) := by decide +kernel
theorem dL_cash_23 : decode cL_cash 23 = .ok (.ireturn, 1) := by decide +kernel
