theorem dX13_init_0 : decode cX13_init 0 = .ok (.aload_n 0, 1) := by decide +kernel
theorem dX13_init_1 : decode cX13_init 1 = .ok (.invokespecial 1, 3) := by decide +kernel
theorem dX13_init_4 : decode cX13_init 4 = .ok (.aload_n 0, 1) := by decide +kernel
theorem dX13_init_5 : decode cX13_init 5 = .ok (.sipush 1600, 3) := by decide +kernel
theorem dX13_init_8 : decode cX13_init 8 = .ok (.newarray .int, 2) := by decide +kernel
theorem dX13_init_10 : decode cX13_init 10 = .ok (.putfield 7, 3) := by decide +kernel
theorem dX13_init_13 : decode cX13_init 13 = .ok (.aload_n 0, 1) := by decide +kernel
theorem dX13_init_14 : decode cX13_init 14 = .ok (.iconst (-1), 1) := by decide +kernel
theorem dX13_init_15 : decode cX13_init 15 = .ok (.putfield 13, 3) := by decide +kernel
theorem dX13_init_18 : decode cX13_init 18 = .ok (.aload_n 0, 1) := by decide +kernel
theorem dX13_init_19 : decode cX13_init 19 = .ok (.bipush 34, 2) := by decide +kernel
theorem dX13_init_21 : decode cX13_init 21 = .ok (.newarray .long, 2) := by decide +kernel
theorem dX13_init_23 : decode cX13_init 23 = .ok (.dup, 1) := by decide +kernel
theorem dX13_init_24 : decode cX13_init 24 = .ok (.iconst 0, 1) := by decide +kernel
theorem dX13_init_25 : decode cX13_init 25 = .ok (.ldc2_w 17, 3) := by decide +kernel
theorem dX13_init_28 : decode cX13_init 28 = .ok (.lastore, 1) := by decide +kernel
theorem dX13_init_29 : decode cX13_init 29 = .ok (.dup, 1) := by decide +kernel
theorem dX13_init_30 : decode cX13_init 30 = .ok (.iconst 1, 1) := by decide +kernel
theorem dX13_init_31 : decode cX13_init 31 = .ok (.ldc2_w 19, 3) := by decide +kernel
theorem dX13_init_34 : decode cX13_init 34 = .ok (.lastore, 1) := by decide +kernel
theorem dX13_init_35 : decode cX13_init 35 = .ok (.dup, 1) := by decide +kernel
theorem dX13_init_36 : decode cX13_init 36 = .ok (.iconst 2, 1) := by decide +kernel
theorem dX13_init_37 : decode cX13_init 37 = .ok (.ldc2_w 21, 3) := by decide +kernel
theorem dX13_init_40 : decode cX13_init 40 = .ok (.lastore, 1) := by decide +kernel
theorem dX13_init_41 : decode cX13_init 41 = .ok (.dup, 1) := by decide +kernel
theorem dX13_init_42 : decode cX13_init 42 = .ok (.iconst 3, 1) := by decide +kernel
theorem dX13_init_43 : decode cX13_init 43 = .ok (.ldc2_w 23, 3) := by decide +kernel
theorem dX13_init_46 : decode cX13_init 46 = .ok (.lastore, 1) := by decide +kernel
theorem dX13_init_47 : decode cX13_init 47 = .ok (.dup, 1) := by decide +kernel
theorem dX13_init_48 : decode cX13_init 48 = .ok (.iconst 4, 1) := by decide +kernel
theorem dX13_init_49 : decode cX13_init 49 = .ok (.ldc2_w 25, 3) := by decide +kernel
theorem dX13_init_52 : decode cX13_init 52 = .ok (.lastore, 1) := by decide +kernel
theorem dX13_init_53 : decode cX13_init 53 = .ok (.dup, 1) := by decide +kernel
theorem dX13_init_54 : decode cX13_init 54 = .ok (.iconst 5, 1) := by decide +kernel
theorem dX13_init_55 : decode cX13_init 55 = .ok (.ldc2_w 27, 3) := by decide +kernel
theorem dX13_init_58 : decode cX13_init 58 = .ok (.lastore, 1) := by decide +kernel
theorem dX13_init_59 : decode cX13_init 59 = .ok (.dup, 1) := by decide +kernel
theorem dX13_init_60 : decode cX13_init 60 = .ok (.bipush 6, 2) := by decide +kernel
theorem dX13_init_62 : decode cX13_init 62 = .ok (.ldc2_w 29, 3) := by decide +kernel
theorem dX13_init_65 : decode cX13_init 65 = .ok (.lastore, 1) := by decide +kernel
theorem dX13_init_66 : decode cX13_init 66 = .ok (.dup, 1) := by decide +kernel
theorem dX13_init_67 : decode cX13_init 67 = .ok (.bipush 7, 2) := by decide +kernel
theorem dX13_init_69 : decode cX13_init 69 = .ok (.ldc2_w 31, 3) := by decide +kernel
theorem dX13_init_72 : decode cX13_init 72 = .ok (.lastore, 1) := by decide +kernel
theorem dX13_init_73 : decode cX13_init 73 = .ok (.dup, 1) := by decide +kernel
theorem dX13_init_74 : decode cX13_init 74 = .ok (.bipush 8, 2) := by decide +kernel
theorem dX13_init_76 : decode cX13_init 76 = .ok (.ldc2_w 33, 3) := by decide +kernel
theorem dX13_init_79 : decode cX13_init 79 = .ok (.lastore, 1) := by decide +kernel
theorem dX13_init_80 : decode cX13_init 80 = .ok (.dup, 1) := by decide +kernel
theorem dX13_init_81 : decode cX13_init 81 = .ok (.bipush 9, 2) := by decide +kernel
theorem dX13_init_83 : decode cX13_init 83 = .ok (.ldc2_w 35, 3) := by decide +kernel
theorem dX13_init_86 : decode cX13_init 86 = .ok (.lastore, 1) := by decide +kernel
theorem dX13_init_87 : decode cX13_init 87 = .ok (.dup, 1) := by decide +kernel
theorem dX13_init_88 : decode cX13_init 88 = .ok (.bipush 10, 2) := by decide +kernel
theorem dX13_init_90 : decode cX13_init 90 = .ok (.ldc2_w 37, 3) := by decide +kernel
theorem dX13_init_93 : decode cX13_init 93 = .ok (.lastore, 1) := by decide +kernel
theorem dX13_init_94 : decode cX13_init 94 = .ok (.dup, 1) := by decide +kernel
theorem dX13_init_95 : decode cX13_init 95 = .ok (.bipush 11, 2) := by decide +kernel
theorem dX13_init_97 : decode cX13_init 97 = .ok (.ldc2_w 39, 3) := by decide +kernel
theorem dX13_init_100 : decode cX13_init 100 = .ok (.lastore, 1) := by decide +kernel
theorem dX13_init_101 : decode cX13_init 101 = .ok (.dup, 1) := by decide +kernel
theorem dX13_init_102 : decode cX13_init 102 = .ok (.bipush 12, 2) := by decide +kernel
theorem dX13_init_104 : decode cX13_init 104 = .ok (.ldc2_w 41, 3) := by decide +kernel
theorem dX13_init_107 : decode cX13_init 107 = .ok (.lastore, 1) := by decide +kernel
theorem dX13_init_108 : decode cX13_init 108 = .ok (.dup, 1) := by decide +kernel
theorem dX13_init_109 : decode cX13_init 109 = .ok (.bipush 13, 2) := by decide +kernel
theorem dX13_init_111 : decode cX13_init 111 = .ok (.ldc2_w 43, 3) := by decide +kernel
theorem dX13_init_114 : decode cX13_init 114 = .ok (.lastore, 1) := by decide +kernel
theorem dX13_init_115 : decode cX13_init 115 = .ok (.dup, 1) := by decide +kernel
theorem dX13_init_116 : decode cX13_init 116 = .ok (.bipush 14, 2) := by decide +kernel
theorem dX13_init_118 : decode cX13_init 118 = .ok (.ldc2_w 45, 3) := by decide +kernel
theorem dX13_init_121 : decode cX13_init 121 = .ok (.lastore, 1) := by decide +kernel
theorem dX13_init_122 : decode cX13_init 122 = .ok (.dup, 1) := by decide +kernel
theorem dX13_init_123 : decode cX13_init 123 = .ok (.bipush 15, 2) := by decide +kernel
theorem dX13_init_125 : decode cX13_init 125 = .ok (.ldc2_w 47, 3) := by decide +kernel
theorem dX13_init_128 : decode cX13_init 128 = .ok (.lastore, 1) := by decide +kernel
theorem dX13_init_129 : decode cX13_init 129 = .ok (.dup, 1) := by decide +kernel
theorem dX13_init_130 : decode cX13_init 130 = .ok (.bipush 16, 2) := by decide +kernel
theorem dX13_init_132 : decode cX13_init 132 = .ok (.ldc2_w 49, 3) := by decide +kernel
theorem dX13_init_135 : decode cX13_init 135 = .ok (.lastore, 1) := by decide +kernel
theorem dX13_init_136 : decode cX13_init 136 = .ok (.dup, 1) := by decide +kernel
theorem dX13_init_137 : decode cX13_init 137 = .ok (.bipush 17, 2) := by decide +kernel
theorem dX13_init_139 : decode cX13_init 139 = .ok (.ldc2_w 51, 3) := by decide +kernel
theorem dX13_init_142 : decode cX13_init 142 = .ok (.lastore, 1) := by decide +kernel
theorem dX13_init_143 : decode cX13_init 143 = .ok (.dup, 1) := by decide +kernel
theorem dX13_init_144 : decode cX13_init 144 = .ok (.bipush 18, 2) := by decide +kernel
theorem dX13_init_146 : decode cX13_init 146 = .ok (.ldc2_w 53, 3) := by decide +kernel
theorem dX13_init_149 : decode cX13_init 149 = .ok (.lastore, 1) := by decide +kernel
theorem dX13_init_150 : decode cX13_init 150 = .ok (.dup, 1) := by decide +kernel
theorem dX13_init_151 : decode cX13_init 151 = .ok (.bipush 19, 2) := by decide +kernel
theorem dX13_init_153 : decode cX13_init 153 = .ok (.ldc2_w 55, 3) := by decide +kernel
theorem dX13_init_156 : decode cX13_init 156 = .ok (.lastore, 1) := by decide +kernel
theorem dX13_init_157 : decode cX13_init 157 = .ok (.dup, 1) := by decide +kernel
theorem dX13_init_158 : decode cX13_init 158 = .ok (.bipush 20, 2) := by decide +kernel
theorem dX13_init_160 : decode cX13_init 160 = .ok (.ldc2_w 57, 3) := by decide +kernel
theorem dX13_init_163 : decode cX13_init 163 = .ok (.lastore, 1) := by decide +kernel
theorem dX13_init_164 : decode cX13_init 164 = .ok (.dup, 1) := by decide +kernel
theorem dX13_init_165 : decode cX13_init 165 = .ok (.bipush 21, 2) := by decide +kernel
theorem dX13_init_167 : decode cX13_init 167 = .ok (.ldc2_w 59, 3) := by decide +kernel
theorem dX13_init_170 : decode cX13_init 170 = .ok (.lastore, 1) := by decide +kernel
theorem dX13_init_171 : decode cX13_init 171 = .ok (.dup, 1) := by decide +kernel
theorem dX13_init_172 : decode cX13_init 172 = .ok (.bipush 22, 2) := by decide +kernel
theorem dX13_init_174 : decode cX13_init 174 = .ok (.ldc2_w 61, 3) := by decide +kernel
theorem dX13_init_177 : decode cX13_init 177 = .ok (.lastore, 1) := by decide +kernel
theorem dX13_init_178 : decode cX13_init 178 = .ok (.dup, 1) := by decide +kernel
theorem dX13_init_179 : decode cX13_init 179 = .ok (.bipush 23, 2) := by decide +kernel
theorem dX13_init_181 : decode cX13_init 181 = .ok (.ldc2_w 63, 3) := by decide +kernel
theorem dX13_init_184 : decode cX13_init 184 = .ok (.lastore, 1) := by decide +kernel
theorem dX13_init_185 : decode cX13_init 185 = .ok (.dup, 1) := by decide +kernel
theorem dX13_init_186 : decode cX13_init 186 = .ok (.bipush 24, 2) := by decide +kernel
theorem dX13_init_188 : decode cX13_init 188 = .ok (.ldc2_w 65, 3) := by decide +kernel
theorem dX13_init_191 : decode cX13_init 191 = .ok (.lastore, 1) := by decide +kernel
theorem dX13_init_192 : decode cX13_init 192 = .ok (.dup, 1) := by decide +kernel
theorem dX13_init_193 : decode cX13_init 193 = .ok (.bipush 25, 2) := by decide +kernel
theorem dX13_init_195 : decode cX13_init 195 = .ok (.ldc2_w 67, 3) := by decide +kernel
theorem dX13_init_198 : decode cX13_init 198 = .ok (.lastore, 1) := by decide +kernel
theorem dX13_init_199 : decode cX13_init 199 = .ok (.dup, 1) := by decide +kernel
theorem dX13_init_200 : decode cX13_init 200 = .ok (.bipush 26, 2) := by decide +kernel
theorem dX13_init_202 : decode cX13_init 202 = .ok (.ldc2_w 69, 3) := by decide +kernel
theorem dX13_init_205 : decode cX13_init 205 = .ok (.lastore, 1) := by decide +kernel
theorem dX13_init_206 : decode cX13_init 206 = .ok (.dup, 1) := by decide +kernel
theorem dX13_init_207 : decode cX13_init 207 = .ok (.bipush 27, 2) := by decide +kernel
theorem dX13_init_209 : decode cX13_init 209 = .ok (.ldc2_w 71, 3) := by decide +kernel
theorem dX13_init_212 : decode cX13_init 212 = .ok (.lastore, 1) := by decide +kernel
theorem dX13_init_213 : decode cX13_init 213 = .ok (.dup, 1) := by decide +kernel
theorem dX13_init_214 : decode cX13_init 214 = .ok (.bipush 28, 2) := by decide +kernel
theorem dX13_init_216 : decode cX13_init 216 = .ok (.ldc2_w 73, 3) := by decide +kernel
theorem dX13_init_219 : decode cX13_init 219 = .ok (.lastore, 1) := by decide +kernel
theorem dX13_init_220 : decode cX13_init 220 = .ok (.dup, 1) := by decide +kernel
theorem dX13_init_221 : decode cX13_init 221 = .ok (.bipush 29, 2) := by decide +kernel
theorem dX13_init_223 : decode cX13_init 223 = .ok (.ldc2_w 75, 3) := by decide +kernel
theorem dX13_init_226 : decode cX13_init 226 = .ok (.lastore, 1) := by decide +kernel
theorem dX13_init_227 : decode cX13_init 227 = .ok (.dup, 1) := by decide +kernel
theorem dX13_init_228 : decode cX13_init 228 = .ok (.bipush 30, 2) := by decide +kernel
theorem dX13_init_230 : decode cX13_init 230 = .ok (.ldc2_w 77, 3) := by decide +kernel
theorem dX13_init_233 : decode cX13_init 233 = .ok (.lastore, 1) := by decide +kernel
theorem dX13_init_234 : decode cX13_init 234 = .ok (.dup, 1) := by decide +kernel
theorem dX13_init_235 : decode cX13_init 235 = .ok (.bipush 31, 2) := by decide +kernel
theorem dX13_init_237 : decode cX13_init 237 = .ok (.ldc2_w 79, 3) := by decide +kernel
theorem dX13_init_240 : decode cX13_init 240 = .ok (.lastore, 1) := by decide +kernel
theorem dX13_init_241 : decode cX13_init 241 = .ok (.dup, 1) := by decide +kernel
theorem dX13_init_242 : decode cX13_init 242 = .ok (.bipush 32, 2) := by decide +kernel
theorem dX13_init_244 : decode cX13_init 244 = .ok (.ldc2_w 81, 3) := by decide +kernel
theorem dX13_init_247 : decode cX13_init 247 = .ok (.lastore, 1) := by decide +kernel
theorem dX13_init_248 : decode cX13_init 248 = .ok (.dup, 1) := by decide +kernel
theorem dX13_init_249 : decode cX13_init 249 = .ok (.bipush 33, 2) := by decide +kernel
theorem dX13_init_251 : decode cX13_init 251 = .ok (.ldc2_w 83, 3) := by decide +kernel
theorem dX13_init_254 : decode cX13_init 254 = .ok (.lastore, 1) := by decide +kernel
theorem dX13_init_255 : decode cX13_init 255 = .ok (.putfield 85, 3) := by decide +kernel
theorem dX13_init_258 : decode cX13_init 258 = .ok (.aload_n 0, 1) := by decide +kernel
theorem dX13_init_259 : decode cX13_init 259 = .ok (.sipush 240, 3) := by decide +kernel
theorem dX13_init_262 : decode cX13_init 262 = .ok (.newarray .int, 2) := by decide +kernel
theorem dX13_init_264 : decode cX13_init 264 = .ok (.putfield 89, 3) := by decide +kernel
theorem dX13_init_267 : decode cX13_init 267 = .ok (.aload_n 0, 1) := by decide +kernel
theorem dX13_init_268 : decode cX13_init 268 = .ok (.sipush 1920, 3) := by decide +kernel
theorem dX13_init_271 : decode cX13_init 271 = .ok (.newarray .int, 2) := by decide +kernel
theorem dX13_init_273 : decode cX13_init 273 = .ok (.putfield 92, 3) := by decide +kernel
theorem dX13_init_276 : decode cX13_init 276 = .ok (.aload_n 0, 1) := by decide +kernel
theorem dX13_init_277 : decode cX13_init 277 = .ok (.bipush 8, 2) := by decide +kernel
theorem dX13_init_279 : decode cX13_init 279 = .ok (.newarray .int, 2) := by decide +kernel
theorem dX13_init_281 : decode cX13_init 281 = .ok (.putfield 95, 3) := by decide +kernel
theorem dX13_init_284 : decode cX13_init 284 = .ok (.aload_n 0, 1) := by decide +kernel
theorem dX13_init_285 : decode cX13_init 285 = .ok (.bipush 8, 2) := by decide +kernel
theorem dX13_init_287 : decode cX13_init 287 = .ok (.newarray .int, 2) := by decide +kernel
theorem dX13_init_289 : decode cX13_init 289 = .ok (.putfield 98, 3) := by decide +kernel
theorem dX13_init_292 : decode cX13_init 292 = .ok (.aload_n 0, 1) := by decide +kernel
theorem dX13_init_293 : decode cX13_init 293 = .ok (.bipush 8, 2) := by decide +kernel
theorem dX13_init_295 : decode cX13_init 295 = .ok (.newarray .int, 2) := by decide +kernel
theorem dX13_init_297 : decode cX13_init 297 = .ok (.putfield 101, 3) := by decide +kernel
theorem dX13_init_300 : decode cX13_init 300 = .ok (.aload_n 0, 1) := by decide +kernel
theorem dX13_init_301 : decode cX13_init 301 = .ok (.bipush 8, 2) := by decide +kernel
theorem dX13_init_303 : decode cX13_init 303 = .ok (.newarray .int, 2) := by decide +kernel
theorem dX13_init_305 : decode cX13_init 305 = .ok (.putfield 104, 3) := by decide +kernel
theorem dX13_init_308 : decode cX13_init 308 = .ok (.aload_n 0, 1) := by decide +kernel
theorem dX13_init_309 : decode cX13_init 309 = .ok (.bipush 8, 2) := by decide +kernel
theorem dX13_init_311 : decode cX13_init 311 = .ok (.newarray .int, 2) := by decide +kernel
theorem dX13_init_313 : decode cX13_init 313 = .ok (.putfield 107, 3) := by decide +kernel
theorem dX13_init_316 : decode cX13_init 316 = .ok (.aload_n 0, 1) := by decide +kernel
theorem dX13_init_317 : decode cX13_init 317 = .ok (.bipush 8, 2) := by decide +kernel
theorem dX13_init_319 : decode cX13_init 319 = .ok (.newarray .int, 2) := by decide +kernel
theorem dX13_init_321 : decode cX13_init 321 = .ok (.putfield 110, 3) := by decide +kernel
theorem dX13_init_324 : decode cX13_init 324 = .ok (.aload_n 0, 1) := by decide +kernel
theorem dX13_init_325 : decode cX13_init 325 = .ok (.bipush 8, 2) := by decide +kernel
theorem dX13_init_327 : decode cX13_init 327 = .ok (.newarray .int, 2) := by decide +kernel
theorem dX13_init_329 : decode cX13_init 329 = .ok (.putfield 113, 3) := by decide +kernel
theorem dX13_init_332 : decode cX13_init 332 = .ok (.aload_n 0, 1) := by decide +kernel
theorem dX13_init_333 : decode cX13_init 333 = .ok (.bipush 8, 2) := by decide +kernel
theorem dX13_init_335 : decode cX13_init 335 = .ok (.newarray .int, 2) := by decide +kernel
theorem dX13_init_337 : decode cX13_init 337 = .ok (.putfield 116, 3) := by decide +kernel
theorem dX13_init_340 : decode cX13_init 340 = .ok (.aload_n 0, 1) := by decide +kernel
theorem dX13_init_341 : decode cX13_init 341 = .ok (.bipush 8, 2) := by decide +kernel
theorem dX13_init_343 : decode cX13_init 343 = .ok (.newarray .boolean, 2) := by decide +kernel
theorem dX13_init_345 : decode cX13_init 345 = .ok (.putfield 119, 3) := by decide +kernel
theorem dX13_init_348 : decode cX13_init 348 = .ok (.aload_n 0, 1) := by decide +kernel
theorem dX13_init_349 : decode cX13_init 349 = .ok (.bipush 8, 2) := by decide +kernel
theorem dX13_init_351 : decode cX13_init 351 = .ok (.newarray .boolean, 2) := by decide +kernel
theorem dX13_init_353 : decode cX13_init 353 = .ok (.putfield 123, 3) := by decide +kernel
theorem dX13_init_356 : decode cX13_init 356 = .ok (.aload_n 0, 1) := by decide +kernel
theorem dX13_init_357 : decode cX13_init 357 = .ok (.bipush 8, 2) := by decide +kernel
theorem dX13_init_359 : decode cX13_init 359 = .ok (.newarray .boolean, 2) := by decide +kernel
theorem dX13_init_361 : decode cX13_init 361 = .ok (.putfield 126, 3) := by decide +kernel
theorem dX13_init_364 : decode cX13_init 364 = .ok (.aload_n 0, 1) := by decide +kernel
theorem dX13_init_365 : decode cX13_init 365 = .ok (.bipush 8, 2) := by decide +kernel
theorem dX13_init_367 : decode cX13_init 367 = .ok (.newarray .long, 2) := by decide +kernel
theorem dX13_init_369 : decode cX13_init 369 = .ok (.putfield 129, 3) := by decide +kernel
theorem dX13_init_372 : decode cX13_init 372 = .ok (.aload_n 0, 1) := by decide +kernel
theorem dX13_init_373 : decode cX13_init 373 = .ok (.bipush 7, 2) := by decide +kernel
theorem dX13_init_375 : decode cX13_init 375 = .ok (.putfield 132, 3) := by decide +kernel
theorem dX13_init_378 : decode cX13_init 378 = .ok (.aload_n 0, 1) := by decide +kernel
theorem dX13_init_379 : decode cX13_init 379 = .ok (.bipush 24, 2) := by decide +kernel
theorem dX13_init_381 : decode cX13_init 381 = .ok (.newarray .int, 2) := by decide +kernel
theorem dX13_init_383 : decode cX13_init 383 = .ok (.putfield 135, 3) := by decide +kernel
theorem dX13_init_386 : decode cX13_init 386 = .ok (.aload_n 0, 1) := by decide +kernel
theorem dX13_init_387 : decode cX13_init 387 = .ok (.bipush 24, 2) := by decide +kernel
theorem dX13_init_389 : decode cX13_init 389 = .ok (.newarray .int, 2) := by decide +kernel
theorem dX13_init_391 : decode cX13_init 391 = .ok (.putfield 138, 3) := by decide +kernel
theorem dX13_init_394 : decode cX13_init 394 = .ok (.aload_n 0, 1) := by decide +kernel
theorem dX13_init_395 : decode cX13_init 395 = .ok (.bipush 24, 2) := by decide +kernel
theorem dX13_init_397 : decode cX13_init 397 = .ok (.newarray .int, 2) := by decide +kernel
theorem dX13_init_399 : decode cX13_init 399 = .ok (.putfield 141, 3) := by decide +kernel
theorem dX13_init_402 : decode cX13_init 402 = .ok (.aload_n 0, 1) := by decide +kernel
theorem dX13_init_403 : decode cX13_init 403 = .ok (.bipush 24, 2) := by decide +kernel
theorem dX13_init_405 : decode cX13_init 405 = .ok (.newarray .int, 2) := by decide +kernel
theorem dX13_init_407 : decode cX13_init 407 = .ok (.putfield 144, 3) := by decide +kernel
theorem dX13_init_410 : decode cX13_init 410 = .ok (.aload_n 0, 1) := by decide +kernel
theorem dX13_init_411 : decode cX13_init 411 = .ok (.sipush 192, 3) := by decide +kernel
theorem dX13_init_414 : decode cX13_init 414 = .ok (.newarray .int, 2) := by decide +kernel
theorem dX13_init_416 : decode cX13_init 416 = .ok (.putfield 147, 3) := by decide +kernel
theorem dX13_init_419 : decode cX13_init 419 = .ok (.aload_n 0, 1) := by decide +kernel
theorem dX13_init_420 : decode cX13_init 420 = .ok (.bipush 24, 2) := by decide +kernel
theorem dX13_init_422 : decode cX13_init 422 = .ok (.newarray .int, 2) := by decide +kernel
theorem dX13_init_424 : decode cX13_init 424 = .ok (.putfield 150, 3) := by decide +kernel
theorem dX13_init_427 : decode cX13_init 427 = .ok (.aload_n 0, 1) := by decide +kernel
theorem dX13_init_428 : decode cX13_init 428 = .ok (.sipush 192, 3) := by decide +kernel
theorem dX13_init_431 : decode cX13_init 431 = .ok (.newarray .int, 2) := by decide +kernel
theorem dX13_init_433 : decode cX13_init 433 = .ok (.putfield 153, 3) := by decide +kernel
theorem dX13_init_436 : decode cX13_init 436 = .ok (.aload_n 0, 1) := by decide +kernel
theorem dX13_init_437 : decode cX13_init 437 = .ok (.bipush 24, 2) := by decide +kernel
theorem dX13_init_439 : decode cX13_init 439 = .ok (.newarray .int, 2) := by decide +kernel
theorem dX13_init_441 : decode cX13_init 441 = .ok (.putfield 156, 3) := by decide +kernel
theorem dX13_init_444 : decode cX13_init 444 = .ok (.aload_n 0, 1) := by decide +kernel
theorem dX13_init_445 : decode cX13_init 445 = .ok (.sipush 2400, 3) := by decide +kernel
theorem dX13_init_448 : decode cX13_init 448 = .ok (.newarray .int, 2) := by decide +kernel
theorem dX13_init_450 : decode cX13_init 450 = .ok (.putfield 159, 3) := by decide +kernel
theorem dX13_init_453 : decode cX13_init 453 = .ok (.aload_n 0, 1) := by decide +kernel
theorem dX13_init_454 : decode cX13_init 454 = .ok (.bipush 24, 2) := by decide +kernel
theorem dX13_init_456 : decode cX13_init 456 = .ok (.newarray .int, 2) := by decide +kernel
theorem dX13_init_458 : decode cX13_init 458 = .ok (.putfield 162, 3) := by decide +kernel
theorem dX13_init_461 : decode cX13_init 461 = .ok (.return_, 1) := by decide +kernel
theorem dX13_thrown_0 : decode cX13_thrown 0 = .ok (.aload_n 0, 1) := by decide +kernel
theorem dX13_thrown_1 : decode cX13_thrown 1 = .ok (.getfield 165, 3) := by decide +kernel
theorem dX13_thrown_4 : decode cX13_thrown 4 = .ok (.ireturn, 1) := by decide +kernel
theorem dX13_refuse_0 : decode cX13_refuse 0 = .ok (.aload_n 0, 1) := by decide +kernel
theorem dX13_refuse_1 : decode cX13_refuse 1 = .ok (.iload_n 1, 1) := by decide +kernel
theorem dX13_refuse_2 : decode cX13_refuse 2 = .ok (.putfield 165, 3) := by decide +kernel
theorem dX13_refuse_5 : decode cX13_refuse 5 = .ok (.iconst 0, 1) := by decide +kernel
theorem dX13_refuse_6 : decode cX13_refuse 6 = .ok (.ireturn, 1) := by decide +kernel
theorem dX13_in_0 : decode cX13_in 0 = .ok (.iload_n 0, 1) := by decide +kernel
theorem dX13_in_1 : decode cX13_in 1 = .ok (.iload_n 1, 1) := by decide +kernel
theorem dX13_in_2 : decode cX13_in 2 = .ok (.if_icmp .lt 12, 3) := by decide +kernel
theorem dX13_in_5 : decode cX13_in 5 = .ok (.iload_n 0, 1) := by decide +kernel
theorem dX13_in_6 : decode cX13_in 6 = .ok (.iload_n 2, 1) := by decide +kernel
theorem dX13_in_7 : decode cX13_in 7 = .ok (.if_icmp .gt 7, 3) := by decide +kernel
theorem dX13_in_10 : decode cX13_in 10 = .ok (.iconst 1, 1) := by decide +kernel
theorem dX13_in_11 : decode cX13_in 11 = .ok (.goto 4, 3) := by decide +kernel
theorem dX13_in_14 : decode cX13_in 14 = .ok (.iconst 0, 1) := by decide +kernel
theorem dX13_in_15 : decode cX13_in 15 = .ok (.ireturn, 1) := by decide +kernel
theorem dX13_feed_0 : decode cX13_feed 0 = .ok (.aload_n 0, 1) := by decide +kernel
theorem dX13_feed_1 : decode cX13_feed 1 = .ok (.getfield 168, 3) := by decide +kernel
theorem dX13_feed_4 : decode cX13_feed 4 = .ok (.bipush 20, 2) := by decide +kernel
theorem dX13_feed_6 : decode cX13_feed 6 = .ok (.iadd, 1) := by decide +kernel
theorem dX13_feed_7 : decode cX13_feed 7 = .ok (.sipush 1600, 3) := by decide +kernel
theorem dX13_feed_10 : decode cX13_feed 10 = .ok (.if_icmp .le 9, 3) := by decide +kernel
theorem dX13_feed_13 : decode cX13_feed 13 = .ok (.aload_n 0, 1) := by decide +kernel
theorem dX13_feed_14 : decode cX13_feed 14 = .ok (.iconst 1, 1) := by decide +kernel
theorem dX13_feed_15 : decode cX13_feed 15 = .ok (.invokevirtual 171, 3) := by decide +kernel
theorem dX13_feed_18 : decode cX13_feed 18 = .ok (.ireturn, 1) := by decide +kernel
theorem dX13_feed_19 : decode cX13_feed 19 = .ok (.aload_n 0, 1) := by decide +kernel
theorem dX13_feed_20 : decode cX13_feed 20 = .ok (.iconst 0, 1) := by decide +kernel
theorem dX13_feed_21 : decode cX13_feed 21 = .ok (.putfield 165, 3) := by decide +kernel
theorem dX13_feed_24 : decode cX13_feed 24 = .ok (.aload_n 0, 1) := by decide +kernel
theorem dX13_feed_25 : decode cX13_feed 25 = .ok (.iload_n 1, 1) := by decide +kernel
theorem dX13_feed_26 : decode cX13_feed 26 = .ok (.invokevirtual 175, 3) := by decide +kernel
theorem dX13_feed_29 : decode cX13_feed 29 = .ok (.aload_n 0, 1) := by decide +kernel
theorem dX13_feed_30 : decode cX13_feed 30 = .ok (.iload_n 2, 1) := by decide +kernel
theorem dX13_feed_31 : decode cX13_feed 31 = .ok (.invokevirtual 175, 3) := by decide +kernel
theorem dX13_feed_34 : decode cX13_feed 34 = .ok (.aload_n 0, 1) := by decide +kernel
theorem dX13_feed_35 : decode cX13_feed 35 = .ok (.iload_n 3, 1) := by decide +kernel
theorem dX13_feed_36 : decode cX13_feed 36 = .ok (.invokevirtual 175, 3) := by decide +kernel
theorem dX13_feed_39 : decode cX13_feed 39 = .ok (.aload_n 0, 1) := by decide +kernel
theorem dX13_feed_40 : decode cX13_feed 40 = .ok (.iload 4, 2) := by decide +kernel
theorem dX13_feed_42 : decode cX13_feed 42 = .ok (.invokevirtual 175, 3) := by decide +kernel
theorem dX13_feed_45 : decode cX13_feed 45 = .ok (.aload_n 0, 1) := by decide +kernel
theorem dX13_feed_46 : decode cX13_feed 46 = .ok (.iload 5, 2) := by decide +kernel
theorem dX13_feed_48 : decode cX13_feed 48 = .ok (.invokevirtual 175, 3) := by decide +kernel
theorem dX13_feed_51 : decode cX13_feed 51 = .ok (.aload_n 0, 1) := by decide +kernel
theorem dX13_feed_52 : decode cX13_feed 52 = .ok (.getfield 168, 3) := by decide +kernel
theorem dX13_feed_55 : decode cX13_feed 55 = .ok (.ireturn, 1) := by decide +kernel
theorem dX13_four_0 : decode cX13_four 0 = .ok (.bipush 24, 2) := by decide +kernel
theorem dX13_four_2 : decode cX13_four 2 = .ok (.istore_n 2, 1) := by decide +kernel
theorem dX13_four_3 : decode cX13_four 3 = .ok (.iload_n 2, 1) := by decide +kernel
theorem dX13_four_4 : decode cX13_four 4 = .ok (.ifCond .lt 35, 3) := by decide +kernel
theorem dX13_four_7 : decode cX13_four 7 = .ok (.aload_n 0, 1) := by decide +kernel
theorem dX13_four_8 : decode cX13_four 8 = .ok (.getfield 7, 3) := by decide +kernel
theorem dX13_four_11 : decode cX13_four 11 = .ok (.aload_n 0, 1) := by decide +kernel
theorem dX13_four_12 : decode cX13_four 12 = .ok (.getfield 168, 3) := by decide +kernel
theorem dX13_four_15 : decode cX13_four 15 = .ok (.iload_n 1, 1) := by decide +kernel
theorem dX13_four_16 : decode cX13_four 16 = .ok (.iload_n 2, 1) := by decide +kernel
theorem dX13_four_17 : decode cX13_four 17 = .ok (.ishr, 1) := by decide +kernel
theorem dX13_four_18 : decode cX13_four 18 = .ok (.sipush 255, 3) := by decide +kernel
theorem dX13_four_21 : decode cX13_four 21 = .ok (.iand, 1) := by decide +kernel
theorem dX13_four_22 : decode cX13_four 22 = .ok (.iastore, 1) := by decide +kernel
theorem dX13_four_23 : decode cX13_four 23 = .ok (.aload_n 0, 1) := by decide +kernel
theorem dX13_four_24 : decode cX13_four 24 = .ok (.dup, 1) := by decide +kernel
theorem dX13_four_25 : decode cX13_four 25 = .ok (.getfield 168, 3) := by decide +kernel
theorem dX13_four_28 : decode cX13_four 28 = .ok (.iconst 1, 1) := by decide +kernel
theorem dX13_four_29 : decode cX13_four 29 = .ok (.iadd, 1) := by decide +kernel
theorem dX13_four_30 : decode cX13_four 30 = .ok (.putfield 168, 3) := by decide +kernel
theorem dX13_four_33 : decode cX13_four 33 = .ok (.iinc 2 (-8), 3) := by decide +kernel
theorem dX13_four_36 : decode cX13_four 36 = .ok (.goto (-33), 3) := by decide +kernel
theorem dX13_four_39 : decode cX13_four 39 = .ok (.return_, 1) := by decide +kernel
theorem dX13_end_0 : decode cX13_end 0 = .ok (.iload_n 1, 1) := by decide +kernel
theorem dX13_end_1 : decode cX13_end 1 = .ok (.iconst 0, 1) := by decide +kernel
theorem dX13_end_2 : decode cX13_end 2 = .ok (.aload_n 0, 1) := by decide +kernel
theorem dX13_end_3 : decode cX13_end 3 = .ok (.getfield 168, 3) := by decide +kernel
theorem dX13_end_6 : decode cX13_end 6 = .ok (.invokestatic 179, 3) := by decide +kernel
theorem dX13_end_9 : decode cX13_end 9 = .ok (.ifCond .ne 9, 3) := by decide +kernel
theorem dX13_end_12 : decode cX13_end 12 = .ok (.aload_n 0, 1) := by decide +kernel
theorem dX13_end_13 : decode cX13_end 13 = .ok (.iconst 1, 1) := by decide +kernel
theorem dX13_end_14 : decode cX13_end 14 = .ok (.invokevirtual 171, 3) := by decide +kernel
theorem dX13_end_17 : decode cX13_end 17 = .ok (.ireturn, 1) := by decide +kernel
theorem dX13_end_18 : decode cX13_end 18 = .ok (.aload_n 0, 1) := by decide +kernel
theorem dX13_end_19 : decode cX13_end 19 = .ok (.iconst 0, 1) := by decide +kernel
theorem dX13_end_20 : decode cX13_end 20 = .ok (.putfield 165, 3) := by decide +kernel
theorem dX13_end_23 : decode cX13_end 23 = .ok (.aload_n 0, 1) := by decide +kernel
theorem dX13_end_24 : decode cX13_end 24 = .ok (.iload_n 1, 1) := by decide +kernel
theorem dX13_end_25 : decode cX13_end 25 = .ok (.putfield 168, 3) := by decide +kernel
theorem dX13_end_28 : decode cX13_end 28 = .ok (.iload_n 1, 1) := by decide +kernel
theorem dX13_end_29 : decode cX13_end 29 = .ok (.ireturn, 1) := by decide +kernel
theorem dX13_byteAt_0 : decode cX13_byteAt 0 = .ok (.iload_n 1, 1) := by decide +kernel
theorem dX13_byteAt_1 : decode cX13_byteAt 1 = .ok (.aload_n 0, 1) := by decide +kernel
theorem dX13_byteAt_2 : decode cX13_byteAt 2 = .ok (.getfield 183, 3) := by decide +kernel
theorem dX13_byteAt_5 : decode cX13_byteAt 5 = .ok (.if_icmp .ge 12, 3) := by decide +kernel
theorem dX13_byteAt_8 : decode cX13_byteAt 8 = .ok (.aload_n 0, 1) := by decide +kernel
theorem dX13_byteAt_9 : decode cX13_byteAt 9 = .ok (.getfield 7, 3) := by decide +kernel
theorem dX13_byteAt_12 : decode cX13_byteAt 12 = .ok (.iload_n 1, 1) := by decide +kernel
theorem dX13_byteAt_13 : decode cX13_byteAt 13 = .ok (.iaload, 1) := by decide +kernel
theorem dX13_byteAt_14 : decode cX13_byteAt 14 = .ok (.goto 4, 3) := by decide +kernel
theorem dX13_byteAt_17 : decode cX13_byteAt 17 = .ok (.iconst (-1), 1) := by decide +kernel
theorem dX13_byteAt_18 : decode cX13_byteAt 18 = .ok (.ireturn, 1) := by decide +kernel
theorem dX13_wrong_0 : decode cX13_wrong 0 = .ok (.aload_n 0, 1) := by decide +kernel
theorem dX13_wrong_1 : decode cX13_wrong 1 = .ok (.getfield 186, 3) := by decide +kernel
theorem dX13_wrong_4 : decode cX13_wrong 4 = .ok (.ifCond .ge 11, 3) := by decide +kernel
theorem dX13_wrong_7 : decode cX13_wrong 7 = .ok (.aload_n 0, 1) := by decide +kernel
theorem dX13_wrong_8 : decode cX13_wrong 8 = .ok (.aload_n 0, 1) := by decide +kernel
theorem dX13_wrong_9 : decode cX13_wrong 9 = .ok (.getfield 189, 3) := by decide +kernel
theorem dX13_wrong_12 : decode cX13_wrong 12 = .ok (.putfield 186, 3) := by decide +kernel
theorem dX13_wrong_15 : decode cX13_wrong 15 = .ok (.iconst 0, 1) := by decide +kernel
theorem dX13_wrong_16 : decode cX13_wrong 16 = .ok (.ireturn, 1) := by decide +kernel
theorem dX13_next_0 : decode cX13_next 0 = .ok (.aload_n 0, 1) := by decide +kernel
theorem dX13_next_1 : decode cX13_next 1 = .ok (.aload_n 0, 1) := by decide +kernel
theorem dX13_next_2 : decode cX13_next 2 = .ok (.getfield 192, 3) := by decide +kernel
theorem dX13_next_5 : decode cX13_next 5 = .ok (.putfield 189, 3) := by decide +kernel
theorem dX13_next_8 : decode cX13_next 8 = .ok (.aload_n 0, 1) := by decide +kernel
theorem dX13_next_9 : decode cX13_next 9 = .ok (.aload_n 0, 1) := by decide +kernel
theorem dX13_next_10 : decode cX13_next 10 = .ok (.getfield 189, 3) := by decide +kernel
theorem dX13_next_13 : decode cX13_next 13 = .ok (.invokevirtual 195, 3) := by decide +kernel
theorem dX13_next_16 : decode cX13_next 16 = .ok (.bipush 32, 2) := by decide +kernel
theorem dX13_next_18 : decode cX13_next 18 = .ok (.if_icmp .ne 16, 3) := by decide +kernel
theorem dX13_next_21 : decode cX13_next 21 = .ok (.aload_n 0, 1) := by decide +kernel
theorem dX13_next_22 : decode cX13_next 22 = .ok (.dup, 1) := by decide +kernel
theorem dX13_next_23 : decode cX13_next 23 = .ok (.getfield 189, 3) := by decide +kernel
theorem dX13_next_26 : decode cX13_next 26 = .ok (.iconst 1, 1) := by decide +kernel
theorem dX13_next_27 : decode cX13_next 27 = .ok (.iadd, 1) := by decide +kernel
theorem dX13_next_28 : decode cX13_next 28 = .ok (.putfield 189, 3) := by decide +kernel
theorem dX13_next_31 : decode cX13_next 31 = .ok (.goto (-23), 3) := by decide +kernel
theorem dX13_next_34 : decode cX13_next 34 = .ok (.aload_n 0, 1) := by decide +kernel
theorem dX13_next_35 : decode cX13_next 35 = .ok (.aload_n 0, 1) := by decide +kernel
theorem dX13_next_36 : decode cX13_next 36 = .ok (.getfield 189, 3) := by decide +kernel
theorem dX13_next_39 : decode cX13_next 39 = .ok (.putfield 192, 3) := by decide +kernel
theorem dX13_next_42 : decode cX13_next 42 = .ok (.aload_n 0, 1) := by decide +kernel
theorem dX13_next_43 : decode cX13_next 43 = .ok (.aload_n 0, 1) := by decide +kernel
theorem dX13_next_44 : decode cX13_next 44 = .ok (.getfield 192, 3) := by decide +kernel
theorem dX13_next_47 : decode cX13_next 47 = .ok (.invokevirtual 195, 3) := by decide +kernel
theorem dX13_next_50 : decode cX13_next 50 = .ok (.bipush 59, 2) := by decide +kernel
theorem dX13_next_52 : decode cX13_next 52 = .ok (.if_icmp .ne 14, 3) := by decide +kernel
theorem dX13_next_55 : decode cX13_next 55 = .ok (.aload_n 0, 1) := by decide +kernel
theorem dX13_next_56 : decode cX13_next 56 = .ok (.dup, 1) := by decide +kernel
theorem dX13_next_57 : decode cX13_next 57 = .ok (.getfield 192, 3) := by decide +kernel
theorem dX13_next_60 : decode cX13_next 60 = .ok (.iconst 1, 1) := by decide +kernel
theorem dX13_next_61 : decode cX13_next 61 = .ok (.iadd, 1) := by decide +kernel
theorem dX13_next_62 : decode cX13_next 62 = .ok (.putfield 192, 3) := by decide +kernel
theorem dX13_next_65 : decode cX13_next 65 = .ok (.return_, 1) := by decide +kernel
theorem dX13_next_66 : decode cX13_next 66 = .ok (.aload_n 0, 1) := by decide +kernel
theorem dX13_next_67 : decode cX13_next 67 = .ok (.getfield 192, 3) := by decide +kernel
theorem dX13_next_70 : decode cX13_next 70 = .ok (.aload_n 0, 1) := by decide +kernel
theorem dX13_next_71 : decode cX13_next 71 = .ok (.getfield 183, 3) := by decide +kernel
theorem dX13_next_74 : decode cX13_next 74 = .ok (.if_icmp .ge 44, 3) := by decide +kernel
theorem dX13_next_77 : decode cX13_next 77 = .ok (.aload_n 0, 1) := by decide +kernel
theorem dX13_next_78 : decode cX13_next 78 = .ok (.getfield 7, 3) := by decide +kernel
theorem dX13_next_81 : decode cX13_next 81 = .ok (.aload_n 0, 1) := by decide +kernel
theorem dX13_next_82 : decode cX13_next 82 = .ok (.getfield 192, 3) := by decide +kernel
theorem dX13_next_85 : decode cX13_next 85 = .ok (.iaload, 1) := by decide +kernel
theorem dX13_next_86 : decode cX13_next 86 = .ok (.bipush 32, 2) := by decide +kernel
theorem dX13_next_88 : decode cX13_next 88 = .ok (.if_icmp .eq 30, 3) := by decide +kernel
theorem dX13_next_91 : decode cX13_next 91 = .ok (.aload_n 0, 1) := by decide +kernel
theorem dX13_next_92 : decode cX13_next 92 = .ok (.getfield 7, 3) := by decide +kernel
theorem dX13_next_95 : decode cX13_next 95 = .ok (.aload_n 0, 1) := by decide +kernel
theorem dX13_next_96 : decode cX13_next 96 = .ok (.getfield 192, 3) := by decide +kernel
theorem dX13_next_99 : decode cX13_next 99 = .ok (.iaload, 1) := by decide +kernel
theorem dX13_next_100 : decode cX13_next 100 = .ok (.bipush 59, 2) := by decide +kernel
theorem dX13_next_102 : decode cX13_next 102 = .ok (.if_icmp .eq 16, 3) := by decide +kernel
theorem dX13_next_105 : decode cX13_next 105 = .ok (.aload_n 0, 1) := by decide +kernel
theorem dX13_next_106 : decode cX13_next 106 = .ok (.dup, 1) := by decide +kernel
theorem dX13_next_107 : decode cX13_next 107 = .ok (.getfield 192, 3) := by decide +kernel
theorem dX13_next_110 : decode cX13_next 110 = .ok (.iconst 1, 1) := by decide +kernel
theorem dX13_next_111 : decode cX13_next 111 = .ok (.iadd, 1) := by decide +kernel
theorem dX13_next_112 : decode cX13_next 112 = .ok (.putfield 192, 3) := by decide +kernel
theorem dX13_next_115 : decode cX13_next 115 = .ok (.goto (-49), 3) := by decide +kernel
theorem dX13_next_118 : decode cX13_next 118 = .ok (.return_, 1) := by decide +kernel
theorem dX13_word_0 : decode cX13_word 0 = .ok (.lconst 0, 1) := by decide +kernel
theorem dX13_word_1 : decode cX13_word 1 = .ok (.lstore_n 1, 1) := by decide +kernel
theorem dX13_word_2 : decode cX13_word 2 = .ok (.aload_n 0, 1) := by decide +kernel
theorem dX13_word_3 : decode cX13_word 3 = .ok (.getfield 192, 3) := by decide +kernel
theorem dX13_word_6 : decode cX13_word 6 = .ok (.aload_n 0, 1) := by decide +kernel
theorem dX13_word_7 : decode cX13_word 7 = .ok (.getfield 189, 3) := by decide +kernel
theorem dX13_word_10 : decode cX13_word 10 = .ok (.isub, 1) := by decide +kernel
theorem dX13_word_11 : decode cX13_word 11 = .ok (.bipush 7, 2) := by decide +kernel
theorem dX13_word_13 : decode cX13_word 13 = .ok (.if_icmp .gt 26, 3) := by decide +kernel
theorem dX13_word_16 : decode cX13_word 16 = .ok (.aload_n 0, 1) := by decide +kernel
theorem dX13_word_17 : decode cX13_word 17 = .ok (.getfield 192, 3) := by decide +kernel
theorem dX13_word_20 : decode cX13_word 20 = .ok (.aload_n 0, 1) := by decide +kernel
theorem dX13_word_21 : decode cX13_word 21 = .ok (.getfield 189, 3) := by decide +kernel
theorem dX13_word_24 : decode cX13_word 24 = .ok (.if_icmp .le 17, 3) := by decide +kernel
theorem dX13_word_27 : decode cX13_word 27 = .ok (.aload_n 0, 1) := by decide +kernel
theorem dX13_word_28 : decode cX13_word 28 = .ok (.getfield 7, 3) := by decide +kernel
theorem dX13_word_31 : decode cX13_word 31 = .ok (.aload_n 0, 1) := by decide +kernel
theorem dX13_word_32 : decode cX13_word 32 = .ok (.getfield 189, 3) := by decide +kernel
theorem dX13_word_35 : decode cX13_word 35 = .ok (.iaload, 1) := by decide +kernel
theorem dX13_word_36 : decode cX13_word 36 = .ok (.ifCond .ne 5, 3) := by decide +kernel
theorem dX13_word_39 : decode cX13_word 39 = .ok (.iconst (-1), 1) := by decide +kernel
theorem dX13_word_40 : decode cX13_word 40 = .ok (.ireturn, 1) := by decide +kernel
theorem dX13_word_41 : decode cX13_word 41 = .ok (.aload_n 0, 1) := by decide +kernel
theorem dX13_word_42 : decode cX13_word 42 = .ok (.getfield 189, 3) := by decide +kernel
theorem dX13_word_45 : decode cX13_word 45 = .ok (.istore_n 3, 1) := by decide +kernel
theorem dX13_word_46 : decode cX13_word 46 = .ok (.iload_n 3, 1) := by decide +kernel
theorem dX13_word_47 : decode cX13_word 47 = .ok (.aload_n 0, 1) := by decide +kernel
theorem dX13_word_48 : decode cX13_word 48 = .ok (.getfield 192, 3) := by decide +kernel
theorem dX13_word_51 : decode cX13_word 51 = .ok (.if_icmp .ge 22, 3) := by decide +kernel
theorem dX13_word_54 : decode cX13_word 54 = .ok (.lload_n 1, 1) := by decide +kernel
theorem dX13_word_55 : decode cX13_word 55 = .ok (.bipush 8, 2) := by decide +kernel
theorem dX13_word_57 : decode cX13_word 57 = .ok (.lshl, 1) := by decide +kernel
theorem dX13_word_58 : decode cX13_word 58 = .ok (.aload_n 0, 1) := by decide +kernel
theorem dX13_word_59 : decode cX13_word 59 = .ok (.getfield 7, 3) := by decide +kernel
theorem dX13_word_62 : decode cX13_word 62 = .ok (.iload_n 3, 1) := by decide +kernel
theorem dX13_word_63 : decode cX13_word 63 = .ok (.iaload, 1) := by decide +kernel
theorem dX13_word_64 : decode cX13_word 64 = .ok (.i2l, 1) := by decide +kernel
theorem dX13_word_65 : decode cX13_word 65 = .ok (.lor, 1) := by decide +kernel
theorem dX13_word_66 : decode cX13_word 66 = .ok (.lstore_n 1, 1) := by decide +kernel
theorem dX13_word_67 : decode cX13_word 67 = .ok (.iinc 3 1, 3) := by decide +kernel
theorem dX13_word_70 : decode cX13_word 70 = .ok (.goto (-24), 3) := by decide +kernel
theorem dX13_word_73 : decode cX13_word 73 = .ok (.iconst 0, 1) := by decide +kernel
theorem dX13_word_74 : decode cX13_word 74 = .ok (.istore_n 3, 1) := by decide +kernel
theorem dX13_word_75 : decode cX13_word 75 = .ok (.iload_n 3, 1) := by decide +kernel
theorem dX13_word_76 : decode cX13_word 76 = .ok (.bipush 34, 2) := by decide +kernel
theorem dX13_word_78 : decode cX13_word 78 = .ok (.if_icmp .ge 22, 3) := by decide +kernel
theorem dX13_word_81 : decode cX13_word 81 = .ok (.aload_n 0, 1) := by decide +kernel
theorem dX13_word_82 : decode cX13_word 82 = .ok (.getfield 85, 3) := by decide +kernel
theorem dX13_word_85 : decode cX13_word 85 = .ok (.iload_n 3, 1) := by decide +kernel
theorem dX13_word_86 : decode cX13_word 86 = .ok (.laload, 1) := by decide +kernel
theorem dX13_word_87 : decode cX13_word 87 = .ok (.lload_n 1, 1) := by decide +kernel
theorem dX13_word_88 : decode cX13_word 88 = .ok (.lcmp, 1) := by decide +kernel
theorem dX13_word_89 : decode cX13_word 89 = .ok (.ifCond .ne 5, 3) := by decide +kernel
theorem dX13_word_92 : decode cX13_word 92 = .ok (.iload_n 3, 1) := by decide +kernel
theorem dX13_word_93 : decode cX13_word 93 = .ok (.ireturn, 1) := by decide +kernel
theorem dX13_word_94 : decode cX13_word 94 = .ok (.iinc 3 1, 3) := by decide +kernel
theorem dX13_word_97 : decode cX13_word 97 = .ok (.goto (-22), 3) := by decide +kernel
theorem dX13_word_100 : decode cX13_word 100 = .ok (.iconst (-1), 1) := by decide +kernel
theorem dX13_word_101 : decode cX13_word 101 = .ok (.ireturn, 1) := by decide +kernel
theorem dX13_number_0 : decode cX13_number 0 = .ok (.aload_n 0, 1) := by decide +kernel
theorem dX13_number_1 : decode cX13_number 1 = .ok (.getfield 186, 3) := by decide +kernel
theorem dX13_number_4 : decode cX13_number 4 = .ok (.ifCond .lt 5, 3) := by decide +kernel
theorem dX13_number_7 : decode cX13_number 7 = .ok (.iconst 0, 1) := by decide +kernel
theorem dX13_number_8 : decode cX13_number 8 = .ok (.ireturn, 1) := by decide +kernel
theorem dX13_number_9 : decode cX13_number 9 = .ok (.aload_n 0, 1) := by decide +kernel
theorem dX13_number_10 : decode cX13_number 10 = .ok (.getfield 189, 3) := by decide +kernel
theorem dX13_number_13 : decode cX13_number 13 = .ok (.istore_n 3, 1) := by decide +kernel
theorem dX13_number_14 : decode cX13_number 14 = .ok (.aload_n 0, 1) := by decide +kernel
theorem dX13_number_15 : decode cX13_number 15 = .ok (.iload_n 3, 1) := by decide +kernel
theorem dX13_number_16 : decode cX13_number 16 = .ok (.invokevirtual 195, 3) := by decide +kernel
theorem dX13_number_19 : decode cX13_number 19 = .ok (.bipush 45, 2) := by decide +kernel
theorem dX13_number_21 : decode cX13_number 21 = .ok (.if_icmp .ne 7, 3) := by decide +kernel
theorem dX13_number_24 : decode cX13_number 24 = .ok (.iconst 1, 1) := by decide +kernel
theorem dX13_number_25 : decode cX13_number 25 = .ok (.goto 4, 3) := by decide +kernel
theorem dX13_number_28 : decode cX13_number 28 = .ok (.iconst 0, 1) := by decide +kernel
theorem dX13_number_29 : decode cX13_number 29 = .ok (.istore 4, 2) := by decide +kernel
theorem dX13_number_31 : decode cX13_number 31 = .ok (.iload 4, 2) := by decide +kernel
theorem dX13_number_33 : decode cX13_number 33 = .ok (.ifCond .eq 6, 3) := by decide +kernel
theorem dX13_number_36 : decode cX13_number 36 = .ok (.iinc 3 1, 3) := by decide +kernel
theorem dX13_number_39 : decode cX13_number 39 = .ok (.aload_n 0, 1) := by decide +kernel
theorem dX13_number_40 : decode cX13_number 40 = .ok (.getfield 192, 3) := by decide +kernel
theorem dX13_number_43 : decode cX13_number 43 = .ok (.iload_n 3, 1) := by decide +kernel
theorem dX13_number_44 : decode cX13_number 44 = .ok (.isub, 1) := by decide +kernel
theorem dX13_number_45 : decode cX13_number 45 = .ok (.iconst 1, 1) := by decide +kernel
theorem dX13_number_46 : decode cX13_number 46 = .ok (.if_icmp .lt 14, 3) := by decide +kernel
theorem dX13_number_49 : decode cX13_number 49 = .ok (.aload_n 0, 1) := by decide +kernel
theorem dX13_number_50 : decode cX13_number 50 = .ok (.getfield 192, 3) := by decide +kernel
theorem dX13_number_53 : decode cX13_number 53 = .ok (.iload_n 3, 1) := by decide +kernel
theorem dX13_number_54 : decode cX13_number 54 = .ok (.isub, 1) := by decide +kernel
theorem dX13_number_55 : decode cX13_number 55 = .ok (.bipush 9, 2) := by decide +kernel
theorem dX13_number_57 : decode cX13_number 57 = .ok (.if_icmp .le 8, 3) := by decide +kernel
theorem dX13_number_60 : decode cX13_number 60 = .ok (.aload_n 0, 1) := by decide +kernel
theorem dX13_number_61 : decode cX13_number 61 = .ok (.invokevirtual 198, 3) := by decide +kernel
theorem dX13_number_64 : decode cX13_number 64 = .ok (.ireturn, 1) := by decide +kernel
theorem dX13_number_65 : decode cX13_number 65 = .ok (.iconst 0, 1) := by decide +kernel
theorem dX13_number_66 : decode cX13_number 66 = .ok (.istore 5, 2) := by decide +kernel
theorem dX13_number_68 : decode cX13_number 68 = .ok (.iload_n 3, 1) := by decide +kernel
theorem dX13_number_69 : decode cX13_number 69 = .ok (.aload_n 0, 1) := by decide +kernel
theorem dX13_number_70 : decode cX13_number 70 = .ok (.getfield 192, 3) := by decide +kernel
theorem dX13_number_73 : decode cX13_number 73 = .ok (.if_icmp .ge 47, 3) := by decide +kernel
theorem dX13_number_76 : decode cX13_number 76 = .ok (.aload_n 0, 1) := by decide +kernel
theorem dX13_number_77 : decode cX13_number 77 = .ok (.getfield 7, 3) := by decide +kernel
theorem dX13_number_80 : decode cX13_number 80 = .ok (.iload_n 3, 1) := by decide +kernel
theorem dX13_number_81 : decode cX13_number 81 = .ok (.iaload, 1) := by decide +kernel
theorem dX13_number_82 : decode cX13_number 82 = .ok (.bipush 48, 2) := by decide +kernel
theorem dX13_number_84 : decode cX13_number 84 = .ok (.bipush 57, 2) := by decide +kernel
theorem dX13_number_86 : decode cX13_number 86 = .ok (.invokestatic 179, 3) := by decide +kernel
theorem dX13_number_89 : decode cX13_number 89 = .ok (.ifCond .ne 8, 3) := by decide +kernel
theorem dX13_number_92 : decode cX13_number 92 = .ok (.aload_n 0, 1) := by decide +kernel
theorem dX13_number_93 : decode cX13_number 93 = .ok (.invokevirtual 198, 3) := by decide +kernel
theorem dX13_number_96 : decode cX13_number 96 = .ok (.ireturn, 1) := by decide +kernel
theorem dX13_number_97 : decode cX13_number 97 = .ok (.bipush 10, 2) := by decide +kernel
theorem dX13_number_99 : decode cX13_number 99 = .ok (.iload 5, 2) := by decide +kernel
theorem dX13_number_101 : decode cX13_number 101 = .ok (.imul, 1) := by decide +kernel
theorem dX13_number_102 : decode cX13_number 102 = .ok (.aload_n 0, 1) := by decide +kernel
theorem dX13_number_103 : decode cX13_number 103 = .ok (.getfield 7, 3) := by decide +kernel
theorem dX13_number_106 : decode cX13_number 106 = .ok (.iload_n 3, 1) := by decide +kernel
theorem dX13_number_107 : decode cX13_number 107 = .ok (.iaload, 1) := by decide +kernel
theorem dX13_number_108 : decode cX13_number 108 = .ok (.iadd, 1) := by decide +kernel
theorem dX13_number_109 : decode cX13_number 109 = .ok (.bipush 48, 2) := by decide +kernel
theorem dX13_number_111 : decode cX13_number 111 = .ok (.isub, 1) := by decide +kernel
theorem dX13_number_112 : decode cX13_number 112 = .ok (.istore 5, 2) := by decide +kernel
theorem dX13_number_114 : decode cX13_number 114 = .ok (.iinc 3 1, 3) := by decide +kernel
theorem dX13_number_117 : decode cX13_number 117 = .ok (.goto (-49), 3) := by decide +kernel
theorem dX13_number_120 : decode cX13_number 120 = .ok (.iload 4, 2) := by decide +kernel
theorem dX13_number_122 : decode cX13_number 122 = .ok (.ifCond .eq 8, 3) := by decide +kernel
theorem dX13_number_125 : decode cX13_number 125 = .ok (.iload 5, 2) := by decide +kernel
theorem dX13_number_127 : decode cX13_number 127 = .ok (.ineg, 1) := by decide +kernel
theorem dX13_number_128 : decode cX13_number 128 = .ok (.istore 5, 2) := by decide +kernel
theorem dX13_number_130 : decode cX13_number 130 = .ok (.iload 5, 2) := by decide +kernel
theorem dX13_number_132 : decode cX13_number 132 = .ok (.iload_n 1, 1) := by decide +kernel
theorem dX13_number_133 : decode cX13_number 133 = .ok (.iload_n 2, 1) := by decide +kernel
theorem dX13_number_134 : decode cX13_number 134 = .ok (.invokestatic 179, 3) := by decide +kernel
theorem dX13_number_137 : decode cX13_number 137 = .ok (.ifCond .ne 8, 3) := by decide +kernel
theorem dX13_number_140 : decode cX13_number 140 = .ok (.aload_n 0, 1) := by decide +kernel
theorem dX13_number_141 : decode cX13_number 141 = .ok (.invokevirtual 198, 3) := by decide +kernel
theorem dX13_number_144 : decode cX13_number 144 = .ok (.ireturn, 1) := by decide +kernel
theorem dX13_number_145 : decode cX13_number 145 = .ok (.aload_n 0, 1) := by decide +kernel
theorem dX13_number_146 : decode cX13_number 146 = .ok (.invokevirtual 202, 3) := by decide +kernel
theorem dX13_number_149 : decode cX13_number 149 = .ok (.iload 5, 2) := by decide +kernel
theorem dX13_number_151 : decode cX13_number 151 = .ok (.ireturn, 1) := by decide +kernel
theorem dX13_line_0 : decode cX13_line 0 = .ok (.aload_n 0, 1) := by decide +kernel
theorem dX13_line_1 : decode cX13_line 1 = .ok (.invokevirtual 205, 3) := by decide +kernel
theorem dX13_line_4 : decode cX13_line 4 = .ok (.istore_n 1, 1) := by decide +kernel
theorem dX13_line_5 : decode cX13_line 5 = .ok (.aload_n 0, 1) := by decide +kernel
theorem dX13_line_6 : decode cX13_line 6 = .ok (.getfield 208, 3) := by decide +kernel
theorem dX13_line_9 : decode cX13_line 9 = .ok (.bipush 60, 2) := by decide +kernel
theorem dX13_line_11 : decode cX13_line 11 = .ok (.if_icmp .eq 7, 3) := by decide +kernel
theorem dX13_line_14 : decode cX13_line 14 = .ok (.iload_n 1, 1) := by decide +kernel
theorem dX13_line_15 : decode cX13_line 15 = .ok (.ifCond .ge 9, 3) := by decide +kernel
theorem dX13_line_18 : decode cX13_line 18 = .ok (.aload_n 0, 1) := by decide +kernel
theorem dX13_line_19 : decode cX13_line 19 = .ok (.invokevirtual 198, 3) := by decide +kernel
theorem dX13_line_22 : decode cX13_line 22 = .ok (.pop, 1) := by decide +kernel
theorem dX13_line_23 : decode cX13_line 23 = .ok (.return_, 1) := by decide +kernel
theorem dX13_line_24 : decode cX13_line 24 = .ok (.aload_n 0, 1) := by decide +kernel
theorem dX13_line_25 : decode cX13_line 25 = .ok (.invokevirtual 202, 3) := by decide +kernel
theorem dX13_line_28 : decode cX13_line 28 = .ok (.ldc 211, 2) := by decide +kernel
theorem dX13_line_30 : decode cX13_line 30 = .ok (.istore_n 2, 1) := by decide +kernel
theorem dX13_line_31 : decode cX13_line 31 = .ok (.iconst 0, 1) := by decide +kernel
theorem dX13_line_32 : decode cX13_line 32 = .ok (.istore_n 3, 1) := by decide +kernel
theorem dX13_line_33 : decode cX13_line 33 = .ok (.iconst 0, 1) := by decide +kernel
theorem dX13_line_34 : decode cX13_line 34 = .ok (.istore 4, 2) := by decide +kernel
theorem dX13_line_36 : decode cX13_line 36 = .ok (.iconst 0, 1) := by decide +kernel
theorem dX13_line_37 : decode cX13_line 37 = .ok (.istore 5, 2) := by decide +kernel
theorem dX13_line_39 : decode cX13_line 39 = .ok (.iload_n 1, 1) := by decide +kernel
theorem dX13_line_40 : decode cX13_line 40 = .ok (.ifCond .eq 13, 3) := by decide +kernel
theorem dX13_line_43 : decode cX13_line 43 = .ok (.iload_n 1, 1) := by decide +kernel
theorem dX13_line_44 : decode cX13_line 44 = .ok (.iconst 1, 1) := by decide +kernel
theorem dX13_line_45 : decode cX13_line 45 = .ok (.if_icmp .eq 8, 3) := by decide +kernel
theorem dX13_line_48 : decode cX13_line 48 = .ok (.iload_n 1, 1) := by decide +kernel
theorem dX13_line_49 : decode cX13_line 49 = .ok (.iconst 5, 1) := by decide +kernel
theorem dX13_line_50 : decode cX13_line 50 = .ok (.if_icmp .ne 14, 3) := by decide +kernel
theorem dX13_line_53 : decode cX13_line 53 = .ok (.aload_n 0, 1) := by decide +kernel
theorem dX13_line_54 : decode cX13_line 54 = .ok (.iload_n 2, 1) := by decide +kernel
theorem dX13_line_55 : decode cX13_line 55 = .ok (.ineg, 1) := by decide +kernel
theorem dX13_line_56 : decode cX13_line 56 = .ok (.iload_n 2, 1) := by decide +kernel
theorem dX13_line_57 : decode cX13_line 57 = .ok (.invokevirtual 212, 3) := by decide +kernel
theorem dX13_line_60 : decode cX13_line 60 = .ok (.istore_n 3, 1) := by decide +kernel
theorem dX13_line_61 : decode cX13_line 61 = .ok (.goto 49, 3) := by decide +kernel
theorem dX13_line_64 : decode cX13_line 64 = .ok (.iload_n 1, 1) := by decide +kernel
theorem dX13_line_65 : decode cX13_line 65 = .ok (.iconst 2, 1) := by decide +kernel
theorem dX13_line_66 : decode cX13_line 66 = .ok (.if_icmp .eq 13, 3) := by decide +kernel
theorem dX13_line_69 : decode cX13_line 69 = .ok (.iload_n 1, 1) := by decide +kernel
theorem dX13_line_70 : decode cX13_line 70 = .ok (.iconst 3, 1) := by decide +kernel
theorem dX13_line_71 : decode cX13_line 71 = .ok (.if_icmp .eq 8, 3) := by decide +kernel
theorem dX13_line_74 : decode cX13_line 74 = .ok (.iload_n 1, 1) := by decide +kernel
theorem dX13_line_75 : decode cX13_line 75 = .ok (.iconst 4, 1) := by decide +kernel
theorem dX13_line_76 : decode cX13_line 76 = .ok (.if_icmp .ne 14, 3) := by decide +kernel
theorem dX13_line_79 : decode cX13_line 79 = .ok (.aload_n 0, 1) := by decide +kernel
theorem dX13_line_80 : decode cX13_line 80 = .ok (.iconst 0, 1) := by decide +kernel
theorem dX13_line_81 : decode cX13_line 81 = .ok (.bipush 59, 2) := by decide +kernel
theorem dX13_line_83 : decode cX13_line 83 = .ok (.invokevirtual 212, 3) := by decide +kernel
theorem dX13_line_86 : decode cX13_line 86 = .ok (.istore_n 3, 1) := by decide +kernel
theorem dX13_line_87 : decode cX13_line 87 = .ok (.goto 23, 3) := by decide +kernel
theorem dX13_line_90 : decode cX13_line 90 = .ok (.iload_n 1, 1) := by decide +kernel
theorem dX13_line_91 : decode cX13_line 91 = .ok (.bipush 6, 2) := by decide +kernel
theorem dX13_line_93 : decode cX13_line 93 = .ok (.if_icmp .eq 17, 3) := by decide +kernel
theorem dX13_line_96 : decode cX13_line 96 = .ok (.iload_n 1, 1) := by decide +kernel
theorem dX13_line_97 : decode cX13_line 97 = .ok (.bipush 33, 2) := by decide +kernel
theorem dX13_line_99 : decode cX13_line 99 = .ok (.if_icmp .eq 11, 3) := by decide +kernel
theorem dX13_line_102 : decode cX13_line 102 = .ok (.aload_n 0, 1) := by decide +kernel
theorem dX13_line_103 : decode cX13_line 103 = .ok (.iconst 0, 1) := by decide +kernel
theorem dX13_line_104 : decode cX13_line 104 = .ok (.bipush 23, 2) := by decide +kernel
theorem dX13_line_106 : decode cX13_line 106 = .ok (.invokevirtual 212, 3) := by decide +kernel
theorem dX13_line_109 : decode cX13_line 109 = .ok (.istore_n 3, 1) := by decide +kernel
theorem dX13_line_110 : decode cX13_line 110 = .ok (.iload_n 1, 1) := by decide +kernel
theorem dX13_line_111 : decode cX13_line 111 = .ok (.bipush 15, 2) := by decide +kernel
theorem dX13_line_113 : decode cX13_line 113 = .ok (.if_icmp .eq 9, 3) := by decide +kernel
theorem dX13_line_116 : decode cX13_line 116 = .ok (.iload_n 1, 1) := by decide +kernel
theorem dX13_line_117 : decode cX13_line 117 = .ok (.bipush 16, 2) := by decide +kernel
theorem dX13_line_119 : decode cX13_line 119 = .ok (.if_icmp .ne 12, 3) := by decide +kernel
theorem dX13_line_122 : decode cX13_line 122 = .ok (.aload_n 0, 1) := by decide +kernel
theorem dX13_line_123 : decode cX13_line 123 = .ok (.iload_n 2, 1) := by decide +kernel
theorem dX13_line_124 : decode cX13_line 124 = .ok (.ineg, 1) := by decide +kernel
theorem dX13_line_125 : decode cX13_line 125 = .ok (.iload_n 2, 1) := by decide +kernel
theorem dX13_line_126 : decode cX13_line 126 = .ok (.invokevirtual 212, 3) := by decide +kernel
theorem dX13_line_129 : decode cX13_line 129 = .ok (.istore 4, 2) := by decide +kernel
theorem dX13_line_131 : decode cX13_line 131 = .ok (.iload_n 1, 1) := by decide +kernel
theorem dX13_line_132 : decode cX13_line 132 = .ok (.bipush 16, 2) := by decide +kernel
theorem dX13_line_134 : decode cX13_line 134 = .ok (.if_icmp .ne 12, 3) := by decide +kernel
theorem dX13_line_137 : decode cX13_line 137 = .ok (.aload_n 0, 1) := by decide +kernel
theorem dX13_line_138 : decode cX13_line 138 = .ok (.iload_n 2, 1) := by decide +kernel
theorem dX13_line_139 : decode cX13_line 139 = .ok (.ineg, 1) := by decide +kernel
theorem dX13_line_140 : decode cX13_line 140 = .ok (.iload_n 2, 1) := by decide +kernel
theorem dX13_line_141 : decode cX13_line 141 = .ok (.invokevirtual 212, 3) := by decide +kernel
theorem dX13_line_144 : decode cX13_line 144 = .ok (.istore 5, 2) := by decide +kernel
theorem dX13_line_146 : decode cX13_line 146 = .ok (.iload_n 1, 1) := by decide +kernel
theorem dX13_line_147 : decode cX13_line 147 = .ok (.bipush 17, 2) := by decide +kernel
theorem dX13_line_149 : decode cX13_line 149 = .ok (.if_icmp .eq 9, 3) := by decide +kernel
theorem dX13_line_152 : decode cX13_line 152 = .ok (.iload_n 1, 1) := by decide +kernel
theorem dX13_line_153 : decode cX13_line 153 = .ok (.bipush 18, 2) := by decide +kernel
theorem dX13_line_155 : decode cX13_line 155 = .ok (.if_icmp .ne 11, 3) := by decide +kernel
theorem dX13_line_158 : decode cX13_line 158 = .ok (.aload_n 0, 1) := by decide +kernel
theorem dX13_line_159 : decode cX13_line 159 = .ok (.iconst 1, 1) := by decide +kernel
theorem dX13_line_160 : decode cX13_line 160 = .ok (.iload_n 2, 1) := by decide +kernel
theorem dX13_line_161 : decode cX13_line 161 = .ok (.invokevirtual 212, 3) := by decide +kernel
theorem dX13_line_164 : decode cX13_line 164 = .ok (.istore 4, 2) := by decide +kernel
theorem dX13_line_166 : decode cX13_line 166 = .ok (.iconst 4, 1) := by decide +kernel
theorem dX13_line_167 : decode cX13_line 167 = .ok (.aload_n 0, 1) := by decide +kernel
theorem dX13_line_168 : decode cX13_line 168 = .ok (.getfield 208, 3) := by decide +kernel
theorem dX13_line_171 : decode cX13_line 171 = .ok (.imul, 1) := by decide +kernel
theorem dX13_line_172 : decode cX13_line 172 = .ok (.istore 6, 2) := by decide +kernel
theorem dX13_line_174 : decode cX13_line 174 = .ok (.aload_n 0, 1) := by decide +kernel
theorem dX13_line_175 : decode cX13_line 175 = .ok (.getfield 89, 3) := by decide +kernel
theorem dX13_line_178 : decode cX13_line 178 = .ok (.iload 6, 2) := by decide +kernel
theorem dX13_line_180 : decode cX13_line 180 = .ok (.iload_n 1, 1) := by decide +kernel
theorem dX13_line_181 : decode cX13_line 181 = .ok (.iastore, 1) := by decide +kernel
theorem dX13_line_182 : decode cX13_line 182 = .ok (.aload_n 0, 1) := by decide +kernel
theorem dX13_line_183 : decode cX13_line 183 = .ok (.getfield 89, 3) := by decide +kernel
theorem dX13_line_186 : decode cX13_line 186 = .ok (.iload 6, 2) := by decide +kernel
theorem dX13_line_188 : decode cX13_line 188 = .ok (.iconst 1, 1) := by decide +kernel
theorem dX13_line_189 : decode cX13_line 189 = .ok (.iadd, 1) := by decide +kernel
theorem dX13_line_190 : decode cX13_line 190 = .ok (.iload_n 3, 1) := by decide +kernel
theorem dX13_line_191 : decode cX13_line 191 = .ok (.iastore, 1) := by decide +kernel
theorem dX13_line_192 : decode cX13_line 192 = .ok (.aload_n 0, 1) := by decide +kernel
theorem dX13_line_193 : decode cX13_line 193 = .ok (.getfield 89, 3) := by decide +kernel
theorem dX13_line_196 : decode cX13_line 196 = .ok (.iload 6, 2) := by decide +kernel
theorem dX13_line_198 : decode cX13_line 198 = .ok (.iconst 2, 1) := by decide +kernel
theorem dX13_line_199 : decode cX13_line 199 = .ok (.iadd, 1) := by decide +kernel
theorem dX13_line_200 : decode cX13_line 200 = .ok (.iload 4, 2) := by decide +kernel
theorem dX13_line_202 : decode cX13_line 202 = .ok (.iastore, 1) := by decide +kernel
theorem dX13_line_203 : decode cX13_line 203 = .ok (.aload_n 0, 1) := by decide +kernel
theorem dX13_line_204 : decode cX13_line 204 = .ok (.getfield 89, 3) := by decide +kernel
theorem dX13_line_207 : decode cX13_line 207 = .ok (.iload 6, 2) := by decide +kernel
theorem dX13_line_209 : decode cX13_line 209 = .ok (.iconst 3, 1) := by decide +kernel
theorem dX13_line_210 : decode cX13_line 210 = .ok (.iadd, 1) := by decide +kernel
theorem dX13_line_211 : decode cX13_line 211 = .ok (.iload 5, 2) := by decide +kernel
theorem dX13_line_213 : decode cX13_line 213 = .ok (.iastore, 1) := by decide +kernel
theorem dX13_line_214 : decode cX13_line 214 = .ok (.aload_n 0, 1) := by decide +kernel
theorem dX13_line_215 : decode cX13_line 215 = .ok (.dup, 1) := by decide +kernel
theorem dX13_line_216 : decode cX13_line 216 = .ok (.getfield 208, 3) := by decide +kernel
theorem dX13_line_219 : decode cX13_line 219 = .ok (.iconst 1, 1) := by decide +kernel
theorem dX13_line_220 : decode cX13_line 220 = .ok (.iadd, 1) := by decide +kernel
theorem dX13_line_221 : decode cX13_line 221 = .ok (.putfield 208, 3) := by decide +kernel
theorem dX13_line_224 : decode cX13_line 224 = .ok (.return_, 1) := by decide +kernel
theorem dX13_read_0 : decode cX13_read 0 = .ok (.aload_n 0, 1) := by decide +kernel
theorem dX13_read_1 : decode cX13_read 1 = .ok (.aload_n 0, 1) := by decide +kernel
theorem dX13_read_2 : decode cX13_read 2 = .ok (.getfield 168, 3) := by decide +kernel
theorem dX13_read_5 : decode cX13_read 5 = .ok (.putfield 183, 3) := by decide +kernel
theorem dX13_read_8 : decode cX13_read 8 = .ok (.aload_n 0, 1) := by decide +kernel
theorem dX13_read_9 : decode cX13_read 9 = .ok (.iconst 0, 1) := by decide +kernel
theorem dX13_read_10 : decode cX13_read 10 = .ok (.putfield 168, 3) := by decide +kernel
theorem dX13_read_13 : decode cX13_read 13 = .ok (.aload_n 0, 1) := by decide +kernel
theorem dX13_read_14 : decode cX13_read 14 = .ok (.iconst 0, 1) := by decide +kernel
theorem dX13_read_15 : decode cX13_read 15 = .ok (.putfield 192, 3) := by decide +kernel
theorem dX13_read_18 : decode cX13_read 18 = .ok (.aload_n 0, 1) := by decide +kernel
theorem dX13_read_19 : decode cX13_read 19 = .ok (.iconst 0, 1) := by decide +kernel
theorem dX13_read_20 : decode cX13_read 20 = .ok (.putfield 208, 3) := by decide +kernel
theorem dX13_read_23 : decode cX13_read 23 = .ok (.aload_n 0, 1) := by decide +kernel
theorem dX13_read_24 : decode cX13_read 24 = .ok (.iconst (-1), 1) := by decide +kernel
theorem dX13_read_25 : decode cX13_read 25 = .ok (.putfield 186, 3) := by decide +kernel
theorem dX13_read_28 : decode cX13_read 28 = .ok (.aload_n 0, 1) := by decide +kernel
theorem dX13_read_29 : decode cX13_read 29 = .ok (.invokevirtual 202, 3) := by decide +kernel
theorem dX13_read_32 : decode cX13_read 32 = .ok (.aload_n 0, 1) := by decide +kernel
theorem dX13_read_33 : decode cX13_read 33 = .ok (.invokevirtual 216, 3) := by decide +kernel
theorem dX13_read_36 : decode cX13_read 36 = .ok (.aload_n 0, 1) := by decide +kernel
theorem dX13_read_37 : decode cX13_read 37 = .ok (.getfield 186, 3) := by decide +kernel
theorem dX13_read_40 : decode cX13_read 40 = .ok (.ifCond .ge 47, 3) := by decide +kernel
theorem dX13_read_43 : decode cX13_read 43 = .ok (.aload_n 0, 1) := by decide +kernel
theorem dX13_read_44 : decode cX13_read 44 = .ok (.getfield 189, 3) := by decide +kernel
theorem dX13_read_47 : decode cX13_read 47 = .ok (.aload_n 0, 1) := by decide +kernel
theorem dX13_read_48 : decode cX13_read 48 = .ok (.getfield 183, 3) := by decide +kernel
theorem dX13_read_51 : decode cX13_read 51 = .ok (.if_icmp .ge 36, 3) := by decide +kernel
theorem dX13_read_54 : decode cX13_read 54 = .ok (.aload_n 0, 1) := by decide +kernel
theorem dX13_read_55 : decode cX13_read 55 = .ok (.getfield 7, 3) := by decide +kernel
theorem dX13_read_58 : decode cX13_read 58 = .ok (.aload_n 0, 1) := by decide +kernel
theorem dX13_read_59 : decode cX13_read 59 = .ok (.getfield 189, 3) := by decide +kernel
theorem dX13_read_62 : decode cX13_read 62 = .ok (.iaload, 1) := by decide +kernel
theorem dX13_read_63 : decode cX13_read 63 = .ok (.bipush 59, 2) := by decide +kernel
theorem dX13_read_65 : decode cX13_read 65 = .ok (.if_icmp .eq 11, 3) := by decide +kernel
theorem dX13_read_68 : decode cX13_read 68 = .ok (.aload_n 0, 1) := by decide +kernel
theorem dX13_read_69 : decode cX13_read 69 = .ok (.invokevirtual 198, 3) := by decide +kernel
theorem dX13_read_72 : decode cX13_read 72 = .ok (.pop, 1) := by decide +kernel
theorem dX13_read_73 : decode cX13_read 73 = .ok (.goto (-37), 3) := by decide +kernel
theorem dX13_read_76 : decode cX13_read 76 = .ok (.aload_n 0, 1) := by decide +kernel
theorem dX13_read_77 : decode cX13_read 77 = .ok (.invokevirtual 202, 3) := by decide +kernel
theorem dX13_read_80 : decode cX13_read 80 = .ok (.aload_n 0, 1) := by decide +kernel
theorem dX13_read_81 : decode cX13_read 81 = .ok (.invokevirtual 216, 3) := by decide +kernel
theorem dX13_read_84 : decode cX13_read 84 = .ok (.goto (-48), 3) := by decide +kernel
theorem dX13_read_87 : decode cX13_read 87 = .ok (.return_, 1) := by decide +kernel
theorem dX13_isThere_0 : decode cX13_isThere 0 = .ok (.iload_n 1, 1) := by decide +kernel
theorem dX13_isThere_1 : decode cX13_isThere 1 = .ok (.iconst 0, 1) := by decide +kernel
theorem dX13_isThere_2 : decode cX13_isThere 2 = .ok (.bipush 23, 2) := by decide +kernel
theorem dX13_isThere_4 : decode cX13_isThere 4 = .ok (.invokestatic 179, 3) := by decide +kernel
theorem dX13_isThere_7 : decode cX13_isThere 7 = .ok (.ifCond .eq 16, 3) := by decide +kernel
theorem dX13_isThere_10 : decode cX13_isThere 10 = .ok (.aload_n 0, 1) := by decide +kernel
theorem dX13_isThere_11 : decode cX13_isThere 11 = .ok (.getfield 135, 3) := by decide +kernel
theorem dX13_isThere_14 : decode cX13_isThere 14 = .ok (.iload_n 1, 1) := by decide +kernel
theorem dX13_isThere_15 : decode cX13_isThere 15 = .ok (.iaload, 1) := by decide +kernel
theorem dX13_isThere_16 : decode cX13_isThere 16 = .ok (.ifCond .eq 7, 3) := by decide +kernel
theorem dX13_isThere_19 : decode cX13_isThere 19 = .ok (.iconst 1, 1) := by decide +kernel
theorem dX13_isThere_20 : decode cX13_isThere 20 = .ok (.goto 4, 3) := by decide +kernel
theorem dX13_isThere_23 : decode cX13_isThere 23 = .ok (.iconst 0, 1) := by decide +kernel
theorem dX13_isThere_24 : decode cX13_isThere 24 = .ok (.ireturn, 1) := by decide +kernel
theorem dX13_make_0 : decode cX13_make 0 = .ok (.iload_n 1, 1) := by decide +kernel
theorem dX13_make_1 : decode cX13_make 1 = .ok (.iconst 0, 1) := by decide +kernel
theorem dX13_make_2 : decode cX13_make 2 = .ok (.bipush 7, 2) := by decide +kernel
theorem dX13_make_4 : decode cX13_make 4 = .ok (.invokestatic 179, 3) := by decide +kernel
theorem dX13_make_7 : decode cX13_make 7 = .ok (.istore_n 3, 1) := by decide +kernel
theorem dX13_make_8 : decode cX13_make 8 = .ok (.iload_n 1, 1) := by decide +kernel
theorem dX13_make_9 : decode cX13_make 9 = .ok (.ifCond .ne 10, 3) := by decide +kernel
theorem dX13_make_12 : decode cX13_make 12 = .ok (.iload_n 2, 1) := by decide +kernel
theorem dX13_make_13 : decode cX13_make 13 = .ok (.iconst 0, 1) := by decide +kernel
theorem dX13_make_14 : decode cX13_make 14 = .ok (.iconst 1, 1) := by decide +kernel
theorem dX13_make_15 : decode cX13_make 15 = .ok (.invokestatic 179, 3) := by decide +kernel
theorem dX13_make_18 : decode cX13_make 18 = .ok (.istore_n 3, 1) := by decide +kernel
theorem dX13_make_19 : decode cX13_make 19 = .ok (.iload_n 1, 1) := by decide +kernel
theorem dX13_make_20 : decode cX13_make 20 = .ok (.iconst 2, 1) := by decide +kernel
theorem dX13_make_21 : decode cX13_make 21 = .ok (.if_icmp .ne 13, 3) := by decide +kernel
theorem dX13_make_24 : decode cX13_make 24 = .ok (.iload_n 2, 1) := by decide +kernel
theorem dX13_make_25 : decode cX13_make 25 = .ok (.ifCond .lt 7, 3) := by decide +kernel
theorem dX13_make_28 : decode cX13_make 28 = .ok (.iconst 1, 1) := by decide +kernel
theorem dX13_make_29 : decode cX13_make 29 = .ok (.goto 4, 3) := by decide +kernel
theorem dX13_make_32 : decode cX13_make 32 = .ok (.iconst 0, 1) := by decide +kernel
theorem dX13_make_33 : decode cX13_make 33 = .ok (.istore_n 3, 1) := by decide +kernel
theorem dX13_make_34 : decode cX13_make 34 = .ok (.iload_n 1, 1) := by decide +kernel
theorem dX13_make_35 : decode cX13_make 35 = .ok (.iconst 3, 1) := by decide +kernel
theorem dX13_make_36 : decode cX13_make 36 = .ok (.if_icmp .ne 11, 3) := by decide +kernel
theorem dX13_make_39 : decode cX13_make 39 = .ok (.iload_n 2, 1) := by decide +kernel
theorem dX13_make_40 : decode cX13_make 40 = .ok (.iconst 1, 1) := by decide +kernel
theorem dX13_make_41 : decode cX13_make 41 = .ok (.bipush 8, 2) := by decide +kernel
theorem dX13_make_43 : decode cX13_make 43 = .ok (.invokestatic 179, 3) := by decide +kernel
theorem dX13_make_46 : decode cX13_make 46 = .ok (.istore_n 3, 1) := by decide +kernel
theorem dX13_make_47 : decode cX13_make 47 = .ok (.iload_n 1, 1) := by decide +kernel
theorem dX13_make_48 : decode cX13_make 48 = .ok (.iconst 4, 1) := by decide +kernel
theorem dX13_make_49 : decode cX13_make 49 = .ok (.if_icmp .ne 11, 3) := by decide +kernel
theorem dX13_make_52 : decode cX13_make 52 = .ok (.iload_n 2, 1) := by decide +kernel
theorem dX13_make_53 : decode cX13_make 53 = .ok (.iconst 1, 1) := by decide +kernel
theorem dX13_make_54 : decode cX13_make 54 = .ok (.bipush 100, 2) := by decide +kernel
theorem dX13_make_56 : decode cX13_make 56 = .ok (.invokestatic 179, 3) := by decide +kernel
theorem dX13_make_59 : decode cX13_make 59 = .ok (.istore_n 3, 1) := by decide +kernel
theorem dX13_make_60 : decode cX13_make 60 = .ok (.iload_n 3, 1) := by decide +kernel
theorem dX13_make_61 : decode cX13_make 61 = .ok (.ifCond .ne 9, 3) := by decide +kernel
theorem dX13_make_64 : decode cX13_make 64 = .ok (.aload_n 0, 1) := by decide +kernel
theorem dX13_make_65 : decode cX13_make 65 = .ok (.iconst 1, 1) := by decide +kernel
theorem dX13_make_66 : decode cX13_make 66 = .ok (.invokevirtual 171, 3) := by decide +kernel
theorem dX13_make_69 : decode cX13_make 69 = .ok (.ireturn, 1) := by decide +kernel
theorem dX13_make_70 : decode cX13_make 70 = .ok (.iconst 0, 1) := by decide +kernel
theorem dX13_make_71 : decode cX13_make 71 = .ok (.istore 4, 2) := by decide +kernel
theorem dX13_make_73 : decode cX13_make 73 = .ok (.iload 4, 2) := by decide +kernel
theorem dX13_make_75 : decode cX13_make 75 = .ok (.bipush 24, 2) := by decide +kernel
theorem dX13_make_77 : decode cX13_make 77 = .ok (.if_icmp .ge 19, 3) := by decide +kernel
theorem dX13_make_80 : decode cX13_make 80 = .ok (.aload_n 0, 1) := by decide +kernel
theorem dX13_make_81 : decode cX13_make 81 = .ok (.getfield 135, 3) := by decide +kernel
theorem dX13_make_84 : decode cX13_make 84 = .ok (.iload 4, 2) := by decide +kernel
theorem dX13_make_86 : decode cX13_make 86 = .ok (.iaload, 1) := by decide +kernel
theorem dX13_make_87 : decode cX13_make 87 = .ok (.ifCond .eq 9, 3) := by decide +kernel
theorem dX13_make_90 : decode cX13_make 90 = .ok (.iinc 4 1, 3) := by decide +kernel
theorem dX13_make_93 : decode cX13_make 93 = .ok (.goto (-20), 3) := by decide +kernel
theorem dX13_make_96 : decode cX13_make 96 = .ok (.iload 4, 2) := by decide +kernel
theorem dX13_make_98 : decode cX13_make 98 = .ok (.bipush 24, 2) := by decide +kernel
theorem dX13_make_100 : decode cX13_make 100 = .ok (.if_icmp .ne 9, 3) := by decide +kernel
theorem dX13_make_103 : decode cX13_make 103 = .ok (.aload_n 0, 1) := by decide +kernel
theorem dX13_make_104 : decode cX13_make 104 = .ok (.iconst 2, 1) := by decide +kernel
theorem dX13_make_105 : decode cX13_make 105 = .ok (.invokevirtual 171, 3) := by decide +kernel
theorem dX13_make_108 : decode cX13_make 108 = .ok (.ireturn, 1) := by decide +kernel
theorem dX13_make_109 : decode cX13_make 109 = .ok (.aload_n 0, 1) := by decide +kernel
theorem dX13_make_110 : decode cX13_make 110 = .ok (.iconst 0, 1) := by decide +kernel
theorem dX13_make_111 : decode cX13_make 111 = .ok (.putfield 165, 3) := by decide +kernel
theorem dX13_make_114 : decode cX13_make 114 = .ok (.aload_n 0, 1) := by decide +kernel
theorem dX13_make_115 : decode cX13_make 115 = .ok (.getfield 135, 3) := by decide +kernel
theorem dX13_make_118 : decode cX13_make 118 = .ok (.iload 4, 2) := by decide +kernel
theorem dX13_make_120 : decode cX13_make 120 = .ok (.iload_n 1, 1) := by decide +kernel
theorem dX13_make_121 : decode cX13_make 121 = .ok (.iconst 1, 1) := by decide +kernel
theorem dX13_make_122 : decode cX13_make 122 = .ok (.iadd, 1) := by decide +kernel
theorem dX13_make_123 : decode cX13_make 123 = .ok (.iastore, 1) := by decide +kernel
theorem dX13_make_124 : decode cX13_make 124 = .ok (.aload_n 0, 1) := by decide +kernel
theorem dX13_make_125 : decode cX13_make 125 = .ok (.getfield 138, 3) := by decide +kernel
theorem dX13_make_128 : decode cX13_make 128 = .ok (.iload 4, 2) := by decide +kernel
theorem dX13_make_130 : decode cX13_make 130 = .ok (.iload_n 1, 1) := by decide +kernel
theorem dX13_make_131 : decode cX13_make 131 = .ok (.ifCond .eq 15, 3) := by decide +kernel
theorem dX13_make_134 : decode cX13_make 134 = .ok (.iload_n 1, 1) := by decide +kernel
theorem dX13_make_135 : decode cX13_make 135 = .ok (.bipush 6, 2) := by decide +kernel
theorem dX13_make_137 : decode cX13_make 137 = .ok (.if_icmp .eq 9, 3) := by decide +kernel
theorem dX13_make_140 : decode cX13_make 140 = .ok (.iload_n 1, 1) := by decide +kernel
theorem dX13_make_141 : decode cX13_make 141 = .ok (.bipush 7, 2) := by decide +kernel
theorem dX13_make_143 : decode cX13_make 143 = .ok (.if_icmp .ne 7, 3) := by decide +kernel
theorem dX13_make_146 : decode cX13_make 146 = .ok (.iconst 0, 1) := by decide +kernel
theorem dX13_make_147 : decode cX13_make 147 = .ok (.goto 4, 3) := by decide +kernel
theorem dX13_make_150 : decode cX13_make 150 = .ok (.iload_n 2, 1) := by decide +kernel
theorem dX13_make_151 : decode cX13_make 151 = .ok (.iastore, 1) := by decide +kernel
theorem dX13_make_152 : decode cX13_make 152 = .ok (.aload_n 0, 1) := by decide +kernel
theorem dX13_make_153 : decode cX13_make 153 = .ok (.getfield 141, 3) := by decide +kernel
theorem dX13_make_156 : decode cX13_make 156 = .ok (.iload 4, 2) := by decide +kernel
theorem dX13_make_158 : decode cX13_make 158 = .ok (.iload_n 1, 1) := by decide +kernel
theorem dX13_make_159 : decode cX13_make 159 = .ok (.ifCond .ne 7, 3) := by decide +kernel
theorem dX13_make_162 : decode cX13_make 162 = .ok (.iload_n 2, 1) := by decide +kernel
theorem dX13_make_163 : decode cX13_make 163 = .ok (.goto 4, 3) := by decide +kernel
theorem dX13_make_166 : decode cX13_make 166 = .ok (.iconst 0, 1) := by decide +kernel
theorem dX13_make_167 : decode cX13_make 167 = .ok (.iastore, 1) := by decide +kernel
theorem dX13_make_168 : decode cX13_make 168 = .ok (.aload_n 0, 1) := by decide +kernel
theorem dX13_make_169 : decode cX13_make 169 = .ok (.getfield 144, 3) := by decide +kernel
theorem dX13_make_172 : decode cX13_make 172 = .ok (.iload 4, 2) := by decide +kernel
theorem dX13_make_174 : decode cX13_make 174 = .ok (.iconst (-1), 1) := by decide +kernel
theorem dX13_make_175 : decode cX13_make 175 = .ok (.iastore, 1) := by decide +kernel
theorem dX13_make_176 : decode cX13_make 176 = .ok (.aload_n 0, 1) := by decide +kernel
theorem dX13_make_177 : decode cX13_make 177 = .ok (.getfield 150, 3) := by decide +kernel
theorem dX13_make_180 : decode cX13_make 180 = .ok (.iload 4, 2) := by decide +kernel
theorem dX13_make_182 : decode cX13_make 182 = .ok (.iconst 0, 1) := by decide +kernel
theorem dX13_make_183 : decode cX13_make 183 = .ok (.iastore, 1) := by decide +kernel
theorem dX13_make_184 : decode cX13_make 184 = .ok (.aload_n 0, 1) := by decide +kernel
theorem dX13_make_185 : decode cX13_make 185 = .ok (.getfield 156, 3) := by decide +kernel
theorem dX13_make_188 : decode cX13_make 188 = .ok (.iload 4, 2) := by decide +kernel
theorem dX13_make_190 : decode cX13_make 190 = .ok (.iconst 0, 1) := by decide +kernel
theorem dX13_make_191 : decode cX13_make 191 = .ok (.iastore, 1) := by decide +kernel
theorem dX13_make_192 : decode cX13_make 192 = .ok (.aload_n 0, 1) := by decide +kernel
theorem dX13_make_193 : decode cX13_make 193 = .ok (.getfield 162, 3) := by decide +kernel
theorem dX13_make_196 : decode cX13_make 196 = .ok (.iload 4, 2) := by decide +kernel
theorem dX13_make_198 : decode cX13_make 198 = .ok (.iconst 0, 1) := by decide +kernel
theorem dX13_make_199 : decode cX13_make 199 = .ok (.iastore, 1) := by decide +kernel
theorem dX13_make_200 : decode cX13_make 200 = .ok (.iload 4, 2) := by decide +kernel
theorem dX13_make_202 : decode cX13_make 202 = .ok (.ireturn, 1) := by decide +kernel
theorem dX13_objects_0 : decode cX13_objects 0 = .ok (.iconst 0, 1) := by decide +kernel
theorem dX13_objects_1 : decode cX13_objects 1 = .ok (.istore_n 1, 1) := by decide +kernel
theorem dX13_objects_2 : decode cX13_objects 2 = .ok (.iconst 0, 1) := by decide +kernel
theorem dX13_objects_3 : decode cX13_objects 3 = .ok (.istore_n 2, 1) := by decide +kernel
theorem dX13_objects_4 : decode cX13_objects 4 = .ok (.iload_n 2, 1) := by decide +kernel
theorem dX13_objects_5 : decode cX13_objects 5 = .ok (.bipush 24, 2) := by decide +kernel
theorem dX13_objects_7 : decode cX13_objects 7 = .ok (.if_icmp .ge 26, 3) := by decide +kernel
theorem dX13_objects_10 : decode cX13_objects 10 = .ok (.iload_n 1, 1) := by decide +kernel
theorem dX13_objects_11 : decode cX13_objects 11 = .ok (.aload_n 0, 1) := by decide +kernel
theorem dX13_objects_12 : decode cX13_objects 12 = .ok (.getfield 135, 3) := by decide +kernel
theorem dX13_objects_15 : decode cX13_objects 15 = .ok (.iload_n 2, 1) := by decide +kernel
theorem dX13_objects_16 : decode cX13_objects 16 = .ok (.iaload, 1) := by decide +kernel
theorem dX13_objects_17 : decode cX13_objects 17 = .ok (.ifCond .eq 7, 3) := by decide +kernel
theorem dX13_objects_20 : decode cX13_objects 20 = .ok (.iconst 1, 1) := by decide +kernel
theorem dX13_objects_21 : decode cX13_objects 21 = .ok (.goto 4, 3) := by decide +kernel
theorem dX13_objects_24 : decode cX13_objects 24 = .ok (.iconst 0, 1) := by decide +kernel
theorem dX13_objects_25 : decode cX13_objects 25 = .ok (.iadd, 1) := by decide +kernel
theorem dX13_objects_26 : decode cX13_objects 26 = .ok (.istore_n 1, 1) := by decide +kernel
theorem dX13_objects_27 : decode cX13_objects 27 = .ok (.iinc 2 1, 3) := by decide +kernel
theorem dX13_objects_30 : decode cX13_objects 30 = .ok (.goto (-26), 3) := by decide +kernel
theorem dX13_objects_33 : decode cX13_objects 33 = .ok (.iload_n 1, 1) := by decide +kernel
theorem dX13_objects_34 : decode cX13_objects 34 = .ok (.ireturn, 1) := by decide +kernel
theorem dX13_drop_0 : decode cX13_drop 0 = .ok (.aload_n 0, 1) := by decide +kernel
theorem dX13_drop_1 : decode cX13_drop 1 = .ok (.iload_n 1, 1) := by decide +kernel
theorem dX13_drop_2 : decode cX13_drop 2 = .ok (.invokevirtual 219, 3) := by decide +kernel
theorem dX13_drop_5 : decode cX13_drop 5 = .ok (.ifCond .ne 9, 3) := by decide +kernel
theorem dX13_drop_8 : decode cX13_drop 8 = .ok (.aload_n 0, 1) := by decide +kernel
theorem dX13_drop_9 : decode cX13_drop 9 = .ok (.iconst 1, 1) := by decide +kernel
