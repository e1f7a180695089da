theorem dX13_with_283 : decode cX13_with 283 = .ok (.goto 4, 3) := by decide +kernel
theorem dX13_with_286 : decode cX13_with 286 = .ok (.iconst 0, 1) := by decide +kernel
theorem dX13_with_287 : decode cX13_with 287 = .ok (.istore 4, 2) := by decide +kernel
theorem dX13_with_289 : decode cX13_with 289 = .ok (.iload 4, 2) := by decide +kernel
theorem dX13_with_291 : decode cX13_with 291 = .ok (.ifCond .eq 50, 3) := by decide +kernel
theorem dX13_with_294 : decode cX13_with 294 = .ok (.aload_n 0, 1) := by decide +kernel
theorem dX13_with_295 : decode cX13_with 295 = .ok (.getfield 141, 3) := by decide +kernel
theorem dX13_with_298 : decode cX13_with 298 = .ok (.iload_n 3, 1) := by decide +kernel
theorem dX13_with_299 : decode cX13_with 299 = .ok (.iconst 1, 1) := by decide +kernel
theorem dX13_with_300 : decode cX13_with 300 = .ok (.iastore, 1) := by decide +kernel
theorem dX13_with_301 : decode cX13_with 301 = .ok (.aload_n 0, 1) := by decide +kernel
theorem dX13_with_302 : decode cX13_with 302 = .ok (.getfield 138, 3) := by decide +kernel
theorem dX13_with_305 : decode cX13_with 305 = .ok (.iload_n 3, 1) := by decide +kernel
theorem dX13_with_306 : decode cX13_with 306 = .ok (.aload_n 0, 1) := by decide +kernel
theorem dX13_with_307 : decode cX13_with 307 = .ok (.getfield 101, 3) := by decide +kernel
theorem dX13_with_310 : decode cX13_with 310 = .ok (.iload_n 1, 1) := by decide +kernel
theorem dX13_with_311 : decode cX13_with 311 = .ok (.iaload, 1) := by decide +kernel
theorem dX13_with_312 : decode cX13_with 312 = .ok (.iastore, 1) := by decide +kernel
theorem dX13_with_313 : decode cX13_with 313 = .ok (.aload_n 0, 1) := by decide +kernel
theorem dX13_with_314 : decode cX13_with 314 = .ok (.getfield 150, 3) := by decide +kernel
theorem dX13_with_317 : decode cX13_with 317 = .ok (.iload_n 3, 1) := by decide +kernel
theorem dX13_with_318 : decode cX13_with 318 = .ok (.iaload, 1) := by decide +kernel
theorem dX13_with_319 : decode cX13_with 319 = .ok (.ifCond .le 22, 3) := by decide +kernel
theorem dX13_with_322 : decode cX13_with 322 = .ok (.aload_n 0, 1) := by decide +kernel
theorem dX13_with_323 : decode cX13_with 323 = .ok (.getfield 101, 3) := by decide +kernel
theorem dX13_with_326 : decode cX13_with 326 = .ok (.aload_n 0, 1) := by decide +kernel
theorem dX13_with_327 : decode cX13_with 327 = .ok (.iload_n 3, 1) := by decide +kernel
theorem dX13_with_328 : decode cX13_with 328 = .ok (.invokevirtual 283, 3) := by decide +kernel
theorem dX13_with_331 : decode cX13_with 331 = .ok (.aload_n 0, 1) := by decide +kernel
theorem dX13_with_332 : decode cX13_with 332 = .ok (.getfield 138, 3) := by decide +kernel
theorem dX13_with_335 : decode cX13_with 335 = .ok (.iload_n 3, 1) := by decide +kernel
theorem dX13_with_336 : decode cX13_with 336 = .ok (.iaload, 1) := by decide +kernel
theorem dX13_with_337 : decode cX13_with 337 = .ok (.iastore, 1) := by decide +kernel
theorem dX13_with_338 : decode cX13_with 338 = .ok (.goto (-25), 3) := by decide +kernel
theorem dX13_with_341 : decode cX13_with 341 = .ok (.aload_n 0, 1) := by decide +kernel
theorem dX13_with_342 : decode cX13_with 342 = .ok (.getfield 101, 3) := by decide +kernel
theorem dX13_with_345 : decode cX13_with 345 = .ok (.iload_n 1, 1) := by decide +kernel
theorem dX13_with_346 : decode cX13_with 346 = .ok (.iload 4, 2) := by decide +kernel
theorem dX13_with_348 : decode cX13_with 348 = .ok (.ifCond .eq 7, 3) := by decide +kernel
theorem dX13_with_351 : decode cX13_with 351 = .ok (.iconst 1, 1) := by decide +kernel
theorem dX13_with_352 : decode cX13_with 352 = .ok (.goto 4, 3) := by decide +kernel
theorem dX13_with_355 : decode cX13_with 355 = .ok (.iconst 0, 1) := by decide +kernel
theorem dX13_with_356 : decode cX13_with 356 = .ok (.iastore, 1) := by decide +kernel
theorem dX13_with_357 : decode cX13_with 357 = .ok (.iconst 1, 1) := by decide +kernel
theorem dX13_with_358 : decode cX13_with 358 = .ok (.ireturn, 1) := by decide +kernel
theorem dX13_with_359 : decode cX13_with 359 = .ok (.aload_n 0, 1) := by decide +kernel
theorem dX13_with_360 : decode cX13_with 360 = .ok (.getfield 141, 3) := by decide +kernel
theorem dX13_with_363 : decode cX13_with 363 = .ok (.iload_n 3, 1) := by decide +kernel
theorem dX13_with_364 : decode cX13_with 364 = .ok (.iaload, 1) := by decide +kernel
theorem dX13_with_365 : decode cX13_with 365 = .ok (.ifCond .ne 10, 3) := by decide +kernel
theorem dX13_with_368 : decode cX13_with 368 = .ok (.aload_n 0, 1) := by decide +kernel
theorem dX13_with_369 : decode cX13_with 369 = .ok (.iload_n 1, 1) := by decide +kernel
theorem dX13_with_370 : decode cX13_with 370 = .ok (.iload_n 3, 1) := by decide +kernel
theorem dX13_with_371 : decode cX13_with 371 = .ok (.invokevirtual 286, 3) := by decide +kernel
theorem dX13_with_374 : decode cX13_with 374 = .ok (.ireturn, 1) := by decide +kernel
theorem dX13_with_375 : decode cX13_with 375 = .ok (.aload_n 0, 1) := by decide +kernel
theorem dX13_with_376 : decode cX13_with 376 = .ok (.getfield 101, 3) := by decide +kernel
theorem dX13_with_379 : decode cX13_with 379 = .ok (.iload_n 1, 1) := by decide +kernel
theorem dX13_with_380 : decode cX13_with 380 = .ok (.aload_n 0, 1) := by decide +kernel
theorem dX13_with_381 : decode cX13_with 381 = .ok (.getfield 138, 3) := by decide +kernel
theorem dX13_with_384 : decode cX13_with 384 = .ok (.iload_n 3, 1) := by decide +kernel
theorem dX13_with_385 : decode cX13_with 385 = .ok (.iaload, 1) := by decide +kernel
theorem dX13_with_386 : decode cX13_with 386 = .ok (.iastore, 1) := by decide +kernel
theorem dX13_with_387 : decode cX13_with 387 = .ok (.iconst 1, 1) := by decide +kernel
theorem dX13_with_388 : decode cX13_with 388 = .ok (.ireturn, 1) := by decide +kernel
theorem dX13_atLock_0 : decode cX13_atLock 0 = .ok (.iload_n 2, 1) := by decide +kernel
theorem dX13_atLock_1 : decode cX13_atLock 1 = .ok (.bipush 7, 2) := by decide +kernel
theorem dX13_atLock_3 : decode cX13_atLock 3 = .ok (.if_icmp .eq 9, 3) := by decide +kernel
theorem dX13_atLock_6 : decode cX13_atLock 6 = .ok (.iload_n 2, 1) := by decide +kernel
theorem dX13_atLock_7 : decode cX13_atLock 7 = .ok (.bipush 8, 2) := by decide +kernel
theorem dX13_atLock_9 : decode cX13_atLock 9 = .ok (.if_icmp .ne 104, 3) := by decide +kernel
theorem dX13_atLock_12 : decode cX13_atLock 12 = .ok (.aload_n 0, 1) := by decide +kernel
theorem dX13_atLock_13 : decode cX13_atLock 13 = .ok (.getfield 144, 3) := by decide +kernel
theorem dX13_atLock_16 : decode cX13_atLock 16 = .ok (.iload_n 3, 1) := by decide +kernel
theorem dX13_atLock_17 : decode cX13_atLock 17 = .ok (.iaload, 1) := by decide +kernel
theorem dX13_atLock_18 : decode cX13_atLock 18 = .ok (.ifCond .lt 13, 3) := by decide +kernel
theorem dX13_atLock_21 : decode cX13_atLock 21 = .ok (.aload_n 0, 1) := by decide +kernel
theorem dX13_atLock_22 : decode cX13_atLock 22 = .ok (.getfield 144, 3) := by decide +kernel
theorem dX13_atLock_25 : decode cX13_atLock 25 = .ok (.iload_n 3, 1) := by decide +kernel
theorem dX13_atLock_26 : decode cX13_atLock 26 = .ok (.iaload, 1) := by decide +kernel
theorem dX13_atLock_27 : decode cX13_atLock 27 = .ok (.iload_n 1, 1) := by decide +kernel
theorem dX13_atLock_28 : decode cX13_atLock 28 = .ok (.if_icmp .ne 7, 3) := by decide +kernel
theorem dX13_atLock_31 : decode cX13_atLock 31 = .ok (.iconst 1, 1) := by decide +kernel
theorem dX13_atLock_32 : decode cX13_atLock 32 = .ok (.goto 4, 3) := by decide +kernel
theorem dX13_atLock_35 : decode cX13_atLock 35 = .ok (.iconst 0, 1) := by decide +kernel
theorem dX13_atLock_36 : decode cX13_atLock 36 = .ok (.istore 4, 2) := by decide +kernel
theorem dX13_atLock_38 : decode cX13_atLock 38 = .ok (.iload 4, 2) := by decide +kernel
theorem dX13_atLock_40 : decode cX13_atLock 40 = .ok (.ifCond .eq 20, 3) := by decide +kernel
theorem dX13_atLock_43 : decode cX13_atLock 43 = .ok (.aload_n 0, 1) := by decide +kernel
theorem dX13_atLock_44 : decode cX13_atLock 44 = .ok (.getfield 144, 3) := by decide +kernel
theorem dX13_atLock_47 : decode cX13_atLock 47 = .ok (.iload_n 3, 1) := by decide +kernel
theorem dX13_atLock_48 : decode cX13_atLock 48 = .ok (.iload_n 1, 1) := by decide +kernel
theorem dX13_atLock_49 : decode cX13_atLock 49 = .ok (.iastore, 1) := by decide +kernel
theorem dX13_atLock_50 : decode cX13_atLock 50 = .ok (.aload_n 0, 1) := by decide +kernel
theorem dX13_atLock_51 : decode cX13_atLock 51 = .ok (.getfield 138, 3) := by decide +kernel
theorem dX13_atLock_54 : decode cX13_atLock 54 = .ok (.iload_n 3, 1) := by decide +kernel
theorem dX13_atLock_55 : decode cX13_atLock 55 = .ok (.dup2, 1) := by decide +kernel
theorem dX13_atLock_56 : decode cX13_atLock 56 = .ok (.iaload, 1) := by decide +kernel
theorem dX13_atLock_57 : decode cX13_atLock 57 = .ok (.iconst 1, 1) := by decide +kernel
theorem dX13_atLock_58 : decode cX13_atLock 58 = .ok (.iadd, 1) := by decide +kernel
theorem dX13_atLock_59 : decode cX13_atLock 59 = .ok (.iastore, 1) := by decide +kernel
theorem dX13_atLock_60 : decode cX13_atLock 60 = .ok (.iload_n 2, 1) := by decide +kernel
theorem dX13_atLock_61 : decode cX13_atLock 61 = .ok (.bipush 8, 2) := by decide +kernel
theorem dX13_atLock_63 : decode cX13_atLock 63 = .ok (.if_icmp .ne 22, 3) := by decide +kernel
theorem dX13_atLock_66 : decode cX13_atLock 66 = .ok (.aload_n 0, 1) := by decide +kernel
theorem dX13_atLock_67 : decode cX13_atLock 67 = .ok (.getfield 101, 3) := by decide +kernel
theorem dX13_atLock_70 : decode cX13_atLock 70 = .ok (.iload_n 1, 1) := by decide +kernel
theorem dX13_atLock_71 : decode cX13_atLock 71 = .ok (.iload 4, 2) := by decide +kernel
theorem dX13_atLock_73 : decode cX13_atLock 73 = .ok (.ifCond .eq 7, 3) := by decide +kernel
theorem dX13_atLock_76 : decode cX13_atLock 76 = .ok (.iconst 1, 1) := by decide +kernel
theorem dX13_atLock_77 : decode cX13_atLock 77 = .ok (.goto 4, 3) := by decide +kernel
theorem dX13_atLock_80 : decode cX13_atLock 80 = .ok (.iconst 0, 1) := by decide +kernel
theorem dX13_atLock_81 : decode cX13_atLock 81 = .ok (.iastore, 1) := by decide +kernel
theorem dX13_atLock_82 : decode cX13_atLock 82 = .ok (.goto 14, 3) := by decide +kernel
theorem dX13_atLock_85 : decode cX13_atLock 85 = .ok (.iload 4, 2) := by decide +kernel
theorem dX13_atLock_87 : decode cX13_atLock 87 = .ok (.ifCond .ne 9, 3) := by decide +kernel
theorem dX13_atLock_90 : decode cX13_atLock 90 = .ok (.aload_n 0, 1) := by decide +kernel
theorem dX13_atLock_91 : decode cX13_atLock 91 = .ok (.iload_n 1, 1) := by decide +kernel
theorem dX13_atLock_92 : decode cX13_atLock 92 = .ok (.iload_n 3, 1) := by decide +kernel
theorem dX13_atLock_93 : decode cX13_atLock 93 = .ok (.invokevirtual 239, 3) := by decide +kernel
theorem dX13_atLock_96 : decode cX13_atLock 96 = .ok (.iload 4, 2) := by decide +kernel
theorem dX13_atLock_98 : decode cX13_atLock 98 = .ok (.ifCond .ne 9, 3) := by decide +kernel
theorem dX13_atLock_101 : decode cX13_atLock 101 = .ok (.iload_n 2, 1) := by decide +kernel
theorem dX13_atLock_102 : decode cX13_atLock 102 = .ok (.bipush 8, 2) := by decide +kernel
theorem dX13_atLock_104 : decode cX13_atLock 104 = .ok (.if_icmp .ne 7, 3) := by decide +kernel
theorem dX13_atLock_107 : decode cX13_atLock 107 = .ok (.iconst 1, 1) := by decide +kernel
theorem dX13_atLock_108 : decode cX13_atLock 108 = .ok (.goto 4, 3) := by decide +kernel
theorem dX13_atLock_111 : decode cX13_atLock 111 = .ok (.iconst 0, 1) := by decide +kernel
theorem dX13_atLock_112 : decode cX13_atLock 112 = .ok (.ireturn, 1) := by decide +kernel
theorem dX13_atLock_113 : decode cX13_atLock 113 = .ok (.aload_n 0, 1) := by decide +kernel
theorem dX13_atLock_114 : decode cX13_atLock 114 = .ok (.getfield 144, 3) := by decide +kernel
theorem dX13_atLock_117 : decode cX13_atLock 117 = .ok (.iload_n 3, 1) := by decide +kernel
theorem dX13_atLock_118 : decode cX13_atLock 118 = .ok (.iaload, 1) := by decide +kernel
theorem dX13_atLock_119 : decode cX13_atLock 119 = .ok (.iload_n 1, 1) := by decide +kernel
theorem dX13_atLock_120 : decode cX13_atLock 120 = .ok (.if_icmp .eq 10, 3) := by decide +kernel
theorem dX13_atLock_123 : decode cX13_atLock 123 = .ok (.aload_n 0, 1) := by decide +kernel
theorem dX13_atLock_124 : decode cX13_atLock 124 = .ok (.iload_n 1, 1) := by decide +kernel
theorem dX13_atLock_125 : decode cX13_atLock 125 = .ok (.iconst 1, 1) := by decide +kernel
theorem dX13_atLock_126 : decode cX13_atLock 126 = .ok (.invokevirtual 264, 3) := by decide +kernel
theorem dX13_atLock_129 : decode cX13_atLock 129 = .ok (.ireturn, 1) := by decide +kernel
theorem dX13_atLock_130 : decode cX13_atLock 130 = .ok (.iload_n 2, 1) := by decide +kernel
theorem dX13_atLock_131 : decode cX13_atLock 131 = .ok (.bipush 9, 2) := by decide +kernel
theorem dX13_atLock_133 : decode cX13_atLock 133 = .ok (.if_icmp .ne 29, 3) := by decide +kernel
theorem dX13_atLock_136 : decode cX13_atLock 136 = .ok (.aload_n 0, 1) := by decide +kernel
theorem dX13_atLock_137 : decode cX13_atLock 137 = .ok (.getfield 138, 3) := by decide +kernel
theorem dX13_atLock_140 : decode cX13_atLock 140 = .ok (.iload_n 3, 1) := by decide +kernel
theorem dX13_atLock_141 : decode cX13_atLock 141 = .ok (.dup2, 1) := by decide +kernel
theorem dX13_atLock_142 : decode cX13_atLock 142 = .ok (.iaload, 1) := by decide +kernel
theorem dX13_atLock_143 : decode cX13_atLock 143 = .ok (.iconst 1, 1) := by decide +kernel
theorem dX13_atLock_144 : decode cX13_atLock 144 = .ok (.isub, 1) := by decide +kernel
theorem dX13_atLock_145 : decode cX13_atLock 145 = .ok (.iastore, 1) := by decide +kernel
theorem dX13_atLock_146 : decode cX13_atLock 146 = .ok (.aload_n 0, 1) := by decide +kernel
theorem dX13_atLock_147 : decode cX13_atLock 147 = .ok (.getfield 138, 3) := by decide +kernel
theorem dX13_atLock_150 : decode cX13_atLock 150 = .ok (.iload_n 3, 1) := by decide +kernel
theorem dX13_atLock_151 : decode cX13_atLock 151 = .ok (.iaload, 1) := by decide +kernel
theorem dX13_atLock_152 : decode cX13_atLock 152 = .ok (.ifCond .ne 8, 3) := by decide +kernel
theorem dX13_atLock_155 : decode cX13_atLock 155 = .ok (.aload_n 0, 1) := by decide +kernel
theorem dX13_atLock_156 : decode cX13_atLock 156 = .ok (.iload_n 3, 1) := by decide +kernel
theorem dX13_atLock_157 : decode cX13_atLock 157 = .ok (.invokevirtual 242, 3) := by decide +kernel
theorem dX13_atLock_160 : decode cX13_atLock 160 = .ok (.iconst 1, 1) := by decide +kernel
theorem dX13_atLock_161 : decode cX13_atLock 161 = .ok (.ireturn, 1) := by decide +kernel
theorem dX13_atLock_162 : decode cX13_atLock 162 = .ok (.iload_n 2, 1) := by decide +kernel
theorem dX13_atLock_163 : decode cX13_atLock 163 = .ok (.bipush 10, 2) := by decide +kernel
theorem dX13_atLock_165 : decode cX13_atLock 165 = .ok (.if_icmp .ne 110, 3) := by decide +kernel
theorem dX13_atLock_168 : decode cX13_atLock 168 = .ok (.aload_n 0, 1) := by decide +kernel
theorem dX13_atLock_169 : decode cX13_atLock 169 = .ok (.getfield 119, 3) := by decide +kernel
theorem dX13_atLock_172 : decode cX13_atLock 172 = .ok (.iload_n 1, 1) := by decide +kernel
theorem dX13_atLock_173 : decode cX13_atLock 173 = .ok (.baload, 1) := by decide +kernel
theorem dX13_atLock_174 : decode cX13_atLock 174 = .ok (.ifCond .eq 20, 3) := by decide +kernel
theorem dX13_atLock_177 : decode cX13_atLock 177 = .ok (.aload_n 0, 1) := by decide +kernel
theorem dX13_atLock_178 : decode cX13_atLock 178 = .ok (.getfield 119, 3) := by decide +kernel
theorem dX13_atLock_181 : decode cX13_atLock 181 = .ok (.iload_n 1, 1) := by decide +kernel
theorem dX13_atLock_182 : decode cX13_atLock 182 = .ok (.iconst 0, 1) := by decide +kernel
theorem dX13_atLock_183 : decode cX13_atLock 183 = .ok (.bastore, 1) := by decide +kernel
theorem dX13_atLock_184 : decode cX13_atLock 184 = .ok (.aload_n 0, 1) := by decide +kernel
theorem dX13_atLock_185 : decode cX13_atLock 185 = .ok (.getfield 101, 3) := by decide +kernel
theorem dX13_atLock_188 : decode cX13_atLock 188 = .ok (.iload_n 1, 1) := by decide +kernel
theorem dX13_atLock_189 : decode cX13_atLock 189 = .ok (.bipush (-2), 2) := by decide +kernel
theorem dX13_atLock_191 : decode cX13_atLock 191 = .ok (.iastore, 1) := by decide +kernel
theorem dX13_atLock_192 : decode cX13_atLock 192 = .ok (.iconst 1, 1) := by decide +kernel
theorem dX13_atLock_193 : decode cX13_atLock 193 = .ok (.ireturn, 1) := by decide +kernel
theorem dX13_atLock_194 : decode cX13_atLock 194 = .ok (.aload_n 0, 1) := by decide +kernel
theorem dX13_atLock_195 : decode cX13_atLock 195 = .ok (.getfield 113, 3) := by decide +kernel
theorem dX13_atLock_198 : decode cX13_atLock 198 = .ok (.iload_n 1, 1) := by decide +kernel
theorem dX13_atLock_199 : decode cX13_atLock 199 = .ok (.aload_n 0, 1) := by decide +kernel
theorem dX13_atLock_200 : decode cX13_atLock 200 = .ok (.getfield 138, 3) := by decide +kernel
theorem dX13_atLock_203 : decode cX13_atLock 203 = .ok (.iload_n 3, 1) := by decide +kernel
theorem dX13_atLock_204 : decode cX13_atLock 204 = .ok (.iaload, 1) := by decide +kernel
theorem dX13_atLock_205 : decode cX13_atLock 205 = .ok (.iastore, 1) := by decide +kernel
theorem dX13_atLock_206 : decode cX13_atLock 206 = .ok (.aload_n 0, 1) := by decide +kernel
theorem dX13_atLock_207 : decode cX13_atLock 207 = .ok (.getfield 116, 3) := by decide +kernel
theorem dX13_atLock_210 : decode cX13_atLock 210 = .ok (.iload_n 1, 1) := by decide +kernel
theorem dX13_atLock_211 : decode cX13_atLock 211 = .ok (.iconst 1, 1) := by decide +kernel
theorem dX13_atLock_212 : decode cX13_atLock 212 = .ok (.iastore, 1) := by decide +kernel
theorem dX13_atLock_213 : decode cX13_atLock 213 = .ok (.aload_n 0, 1) := by decide +kernel
theorem dX13_atLock_214 : decode cX13_atLock 214 = .ok (.getfield 126, 3) := by decide +kernel
theorem dX13_atLock_217 : decode cX13_atLock 217 = .ok (.iload_n 1, 1) := by decide +kernel
theorem dX13_atLock_218 : decode cX13_atLock 218 = .ok (.iconst 1, 1) := by decide +kernel
theorem dX13_atLock_219 : decode cX13_atLock 219 = .ok (.bastore, 1) := by decide +kernel
theorem dX13_atLock_220 : decode cX13_atLock 220 = .ok (.aload_n 0, 1) := by decide +kernel
theorem dX13_atLock_221 : decode cX13_atLock 221 = .ok (.getfield 98, 3) := by decide +kernel
theorem dX13_atLock_224 : decode cX13_atLock 224 = .ok (.iload_n 1, 1) := by decide +kernel
theorem dX13_atLock_225 : decode cX13_atLock 225 = .ok (.iconst 2, 1) := by decide +kernel
theorem dX13_atLock_226 : decode cX13_atLock 226 = .ok (.iastore, 1) := by decide +kernel
theorem dX13_atLock_227 : decode cX13_atLock 227 = .ok (.aload_n 0, 1) := by decide +kernel
theorem dX13_atLock_228 : decode cX13_atLock 228 = .ok (.getfield 107, 3) := by decide +kernel
theorem dX13_atLock_231 : decode cX13_atLock 231 = .ok (.iload_n 1, 1) := by decide +kernel
theorem dX13_atLock_232 : decode cX13_atLock 232 = .ok (.iload_n 3, 1) := by decide +kernel
theorem dX13_atLock_233 : decode cX13_atLock 233 = .ok (.iastore, 1) := by decide +kernel
theorem dX13_atLock_234 : decode cX13_atLock 234 = .ok (.aload_n 0, 1) := by decide +kernel
theorem dX13_atLock_235 : decode cX13_atLock 235 = .ok (.getfield 123, 3) := by decide +kernel
theorem dX13_atLock_238 : decode cX13_atLock 238 = .ok (.iload_n 1, 1) := by decide +kernel
theorem dX13_atLock_239 : decode cX13_atLock 239 = .ok (.iconst 1, 1) := by decide +kernel
theorem dX13_atLock_240 : decode cX13_atLock 240 = .ok (.bastore, 1) := by decide +kernel
theorem dX13_atLock_241 : decode cX13_atLock 241 = .ok (.aload_n 0, 1) := by decide +kernel
theorem dX13_atLock_242 : decode cX13_atLock 242 = .ok (.getfield 153, 3) := by decide +kernel
theorem dX13_atLock_245 : decode cX13_atLock 245 = .ok (.bipush 8, 2) := by decide +kernel
theorem dX13_atLock_247 : decode cX13_atLock 247 = .ok (.iload_n 3, 1) := by decide +kernel
theorem dX13_atLock_248 : decode cX13_atLock 248 = .ok (.imul, 1) := by decide +kernel
theorem dX13_atLock_249 : decode cX13_atLock 249 = .ok (.aload_n 0, 1) := by decide +kernel
theorem dX13_atLock_250 : decode cX13_atLock 250 = .ok (.getfield 156, 3) := by decide +kernel
theorem dX13_atLock_253 : decode cX13_atLock 253 = .ok (.iload_n 3, 1) := by decide +kernel
theorem dX13_atLock_254 : decode cX13_atLock 254 = .ok (.iaload, 1) := by decide +kernel
theorem dX13_atLock_255 : decode cX13_atLock 255 = .ok (.iadd, 1) := by decide +kernel
theorem dX13_atLock_256 : decode cX13_atLock 256 = .ok (.iload_n 1, 1) := by decide +kernel
theorem dX13_atLock_257 : decode cX13_atLock 257 = .ok (.iastore, 1) := by decide +kernel
theorem dX13_atLock_258 : decode cX13_atLock 258 = .ok (.aload_n 0, 1) := by decide +kernel
theorem dX13_atLock_259 : decode cX13_atLock 259 = .ok (.getfield 156, 3) := by decide +kernel
theorem dX13_atLock_262 : decode cX13_atLock 262 = .ok (.iload_n 3, 1) := by decide +kernel
theorem dX13_atLock_263 : decode cX13_atLock 263 = .ok (.dup2, 1) := by decide +kernel
theorem dX13_atLock_264 : decode cX13_atLock 264 = .ok (.iaload, 1) := by decide +kernel
theorem dX13_atLock_265 : decode cX13_atLock 265 = .ok (.iconst 1, 1) := by decide +kernel
theorem dX13_atLock_266 : decode cX13_atLock 266 = .ok (.iadd, 1) := by decide +kernel
theorem dX13_atLock_267 : decode cX13_atLock 267 = .ok (.iastore, 1) := by decide +kernel
theorem dX13_atLock_268 : decode cX13_atLock 268 = .ok (.aload_n 0, 1) := by decide +kernel
theorem dX13_atLock_269 : decode cX13_atLock 269 = .ok (.iload_n 3, 1) := by decide +kernel
theorem dX13_atLock_270 : decode cX13_atLock 270 = .ok (.invokevirtual 242, 3) := by decide +kernel
theorem dX13_atLock_273 : decode cX13_atLock 273 = .ok (.iconst 0, 1) := by decide +kernel
theorem dX13_atLock_274 : decode cX13_atLock 274 = .ok (.ireturn, 1) := by decide +kernel
theorem dX13_atLock_275 : decode cX13_atLock 275 = .ok (.iload_n 2, 1) := by decide +kernel
theorem dX13_atLock_276 : decode cX13_atLock 276 = .ok (.bipush 12, 2) := by decide +kernel
theorem dX13_atLock_278 : decode cX13_atLock 278 = .ok (.if_icmp .ne 12, 3) := by decide +kernel
theorem dX13_atLock_281 : decode cX13_atLock 281 = .ok (.aload_n 0, 1) := by decide +kernel
theorem dX13_atLock_282 : decode cX13_atLock 282 = .ok (.getfield 156, 3) := by decide +kernel
theorem dX13_atLock_285 : decode cX13_atLock 285 = .ok (.iload_n 3, 1) := by decide +kernel
theorem dX13_atLock_286 : decode cX13_atLock 286 = .ok (.iaload, 1) := by decide +kernel
theorem dX13_atLock_287 : decode cX13_atLock 287 = .ok (.goto 17, 3) := by decide +kernel
theorem dX13_atLock_290 : decode cX13_atLock 290 = .ok (.aload_n 0, 1) := by decide +kernel
theorem dX13_atLock_291 : decode cX13_atLock 291 = .ok (.getfield 156, 3) := by decide +kernel
theorem dX13_atLock_294 : decode cX13_atLock 294 = .ok (.iload_n 3, 1) := by decide +kernel
theorem dX13_atLock_295 : decode cX13_atLock 295 = .ok (.iaload, 1) := by decide +kernel
theorem dX13_atLock_296 : decode cX13_atLock 296 = .ok (.ifCond .le 7, 3) := by decide +kernel
theorem dX13_atLock_299 : decode cX13_atLock 299 = .ok (.iconst 1, 1) := by decide +kernel
theorem dX13_atLock_300 : decode cX13_atLock 300 = .ok (.goto 4, 3) := by decide +kernel
theorem dX13_atLock_303 : decode cX13_atLock 303 = .ok (.iconst 0, 1) := by decide +kernel
theorem dX13_atLock_304 : decode cX13_atLock 304 = .ok (.istore 4, 2) := by decide +kernel
theorem dX13_atLock_306 : decode cX13_atLock 306 = .ok (.iconst 0, 1) := by decide +kernel
theorem dX13_atLock_307 : decode cX13_atLock 307 = .ok (.istore 5, 2) := by decide +kernel
theorem dX13_atLock_309 : decode cX13_atLock 309 = .ok (.iload 5, 2) := by decide +kernel
theorem dX13_atLock_311 : decode cX13_atLock 311 = .ok (.iload 4, 2) := by decide +kernel
theorem dX13_atLock_313 : decode cX13_atLock 313 = .ok (.if_icmp .ge 23, 3) := by decide +kernel
theorem dX13_atLock_316 : decode cX13_atLock 316 = .ok (.aload_n 0, 1) := by decide +kernel
theorem dX13_atLock_317 : decode cX13_atLock 317 = .ok (.iload_n 3, 1) := by decide +kernel
theorem dX13_atLock_318 : decode cX13_atLock 318 = .ok (.aload_n 0, 1) := by decide +kernel
theorem dX13_atLock_319 : decode cX13_atLock 319 = .ok (.getfield 153, 3) := by decide +kernel
theorem dX13_atLock_322 : decode cX13_atLock 322 = .ok (.bipush 8, 2) := by decide +kernel
theorem dX13_atLock_324 : decode cX13_atLock 324 = .ok (.iload_n 3, 1) := by decide +kernel
theorem dX13_atLock_325 : decode cX13_atLock 325 = .ok (.imul, 1) := by decide +kernel
theorem dX13_atLock_326 : decode cX13_atLock 326 = .ok (.iaload, 1) := by decide +kernel
theorem dX13_atLock_327 : decode cX13_atLock 327 = .ok (.invokevirtual 289, 3) := by decide +kernel
theorem dX13_atLock_330 : decode cX13_atLock 330 = .ok (.iinc 5 1, 3) := by decide +kernel
theorem dX13_atLock_333 : decode cX13_atLock 333 = .ok (.goto (-24), 3) := by decide +kernel
theorem dX13_atLock_336 : decode cX13_atLock 336 = .ok (.iconst 1, 1) := by decide +kernel
theorem dX13_atLock_337 : decode cX13_atLock 337 = .ok (.ireturn, 1) := by decide +kernel
theorem dX13_atCell_0 : decode cX13_atCell 0 = .ok (.iload_n 2, 1) := by decide +kernel
theorem dX13_atCell_1 : decode cX13_atCell 1 = .ok (.bipush 13, 2) := by decide +kernel
theorem dX13_atCell_3 : decode cX13_atCell 3 = .ok (.if_icmp .ne 15, 3) := by decide +kernel
theorem dX13_atCell_6 : decode cX13_atCell 6 = .ok (.aload_n 0, 1) := by decide +kernel
theorem dX13_atCell_7 : decode cX13_atCell 7 = .ok (.getfield 101, 3) := by decide +kernel
theorem dX13_atCell_10 : decode cX13_atCell 10 = .ok (.iload_n 1, 1) := by decide +kernel
theorem dX13_atCell_11 : decode cX13_atCell 11 = .ok (.aload_n 0, 1) := by decide +kernel
theorem dX13_atCell_12 : decode cX13_atCell 12 = .ok (.getfield 138, 3) := by decide +kernel
theorem dX13_atCell_15 : decode cX13_atCell 15 = .ok (.iload_n 3, 1) := by decide +kernel
theorem dX13_atCell_16 : decode cX13_atCell 16 = .ok (.iaload, 1) := by decide +kernel
theorem dX13_atCell_17 : decode cX13_atCell 17 = .ok (.iastore, 1) := by decide +kernel
theorem dX13_atCell_18 : decode cX13_atCell 18 = .ok (.iload_n 2, 1) := by decide +kernel
theorem dX13_atCell_19 : decode cX13_atCell 19 = .ok (.bipush 14, 2) := by decide +kernel
theorem dX13_atCell_21 : decode cX13_atCell 21 = .ok (.if_icmp .ne 15, 3) := by decide +kernel
theorem dX13_atCell_24 : decode cX13_atCell 24 = .ok (.aload_n 0, 1) := by decide +kernel
theorem dX13_atCell_25 : decode cX13_atCell 25 = .ok (.getfield 138, 3) := by decide +kernel
theorem dX13_atCell_28 : decode cX13_atCell 28 = .ok (.iload_n 3, 1) := by decide +kernel
theorem dX13_atCell_29 : decode cX13_atCell 29 = .ok (.aload_n 0, 1) := by decide +kernel
theorem dX13_atCell_30 : decode cX13_atCell 30 = .ok (.getfield 101, 3) := by decide +kernel
theorem dX13_atCell_33 : decode cX13_atCell 33 = .ok (.iload_n 1, 1) := by decide +kernel
theorem dX13_atCell_34 : decode cX13_atCell 34 = .ok (.iaload, 1) := by decide +kernel
theorem dX13_atCell_35 : decode cX13_atCell 35 = .ok (.iastore, 1) := by decide +kernel
theorem dX13_atCell_36 : decode cX13_atCell 36 = .ok (.iload_n 2, 1) := by decide +kernel
theorem dX13_atCell_37 : decode cX13_atCell 37 = .ok (.bipush 15, 2) := by decide +kernel
theorem dX13_atCell_39 : decode cX13_atCell 39 = .ok (.if_icmp .ne 30, 3) := by decide +kernel
theorem dX13_atCell_42 : decode cX13_atCell 42 = .ok (.aload_n 0, 1) := by decide +kernel
theorem dX13_atCell_43 : decode cX13_atCell 43 = .ok (.getfield 138, 3) := by decide +kernel
theorem dX13_atCell_46 : decode cX13_atCell 46 = .ok (.iload_n 3, 1) := by decide +kernel
theorem dX13_atCell_47 : decode cX13_atCell 47 = .ok (.dup2, 1) := by decide +kernel
theorem dX13_atCell_48 : decode cX13_atCell 48 = .ok (.iaload, 1) := by decide +kernel
theorem dX13_atCell_49 : decode cX13_atCell 49 = .ok (.aload_n 0, 1) := by decide +kernel
theorem dX13_atCell_50 : decode cX13_atCell 50 = .ok (.iload_n 1, 1) := by decide +kernel
theorem dX13_atCell_51 : decode cX13_atCell 51 = .ok (.iconst 2, 1) := by decide +kernel
theorem dX13_atCell_52 : decode cX13_atCell 52 = .ok (.invokevirtual 252, 3) := by decide +kernel
theorem dX13_atCell_55 : decode cX13_atCell 55 = .ok (.iadd, 1) := by decide +kernel
theorem dX13_atCell_56 : decode cX13_atCell 56 = .ok (.iastore, 1) := by decide +kernel
theorem dX13_atCell_57 : decode cX13_atCell 57 = .ok (.aload_n 0, 1) := by decide +kernel
theorem dX13_atCell_58 : decode cX13_atCell 58 = .ok (.getfield 101, 3) := by decide +kernel
theorem dX13_atCell_61 : decode cX13_atCell 61 = .ok (.iload_n 1, 1) := by decide +kernel
theorem dX13_atCell_62 : decode cX13_atCell 62 = .ok (.aload_n 0, 1) := by decide +kernel
theorem dX13_atCell_63 : decode cX13_atCell 63 = .ok (.getfield 138, 3) := by decide +kernel
theorem dX13_atCell_66 : decode cX13_atCell 66 = .ok (.iload_n 3, 1) := by decide +kernel
theorem dX13_atCell_67 : decode cX13_atCell 67 = .ok (.iaload, 1) := by decide +kernel
theorem dX13_atCell_68 : decode cX13_atCell 68 = .ok (.iastore, 1) := by decide +kernel
theorem dX13_atCell_69 : decode cX13_atCell 69 = .ok (.iload_n 2, 1) := by decide +kernel
theorem dX13_atCell_70 : decode cX13_atCell 70 = .ok (.bipush 16, 2) := by decide +kernel
theorem dX13_atCell_72 : decode cX13_atCell 72 = .ok (.if_icmp .ne 58, 3) := by decide +kernel
theorem dX13_atCell_75 : decode cX13_atCell 75 = .ok (.aload_n 0, 1) := by decide +kernel
theorem dX13_atCell_76 : decode cX13_atCell 76 = .ok (.getfield 138, 3) := by decide +kernel
theorem dX13_atCell_79 : decode cX13_atCell 79 = .ok (.iload_n 3, 1) := by decide +kernel
theorem dX13_atCell_80 : decode cX13_atCell 80 = .ok (.iaload, 1) := by decide +kernel
theorem dX13_atCell_81 : decode cX13_atCell 81 = .ok (.aload_n 0, 1) := by decide +kernel
theorem dX13_atCell_82 : decode cX13_atCell 82 = .ok (.iload_n 1, 1) := by decide +kernel
theorem dX13_atCell_83 : decode cX13_atCell 83 = .ok (.iconst 2, 1) := by decide +kernel
theorem dX13_atCell_84 : decode cX13_atCell 84 = .ok (.invokevirtual 252, 3) := by decide +kernel
theorem dX13_atCell_87 : decode cX13_atCell 87 = .ok (.if_icmp .ne 7, 3) := by decide +kernel
theorem dX13_atCell_90 : decode cX13_atCell 90 = .ok (.iconst 1, 1) := by decide +kernel
theorem dX13_atCell_91 : decode cX13_atCell 91 = .ok (.goto 4, 3) := by decide +kernel
theorem dX13_atCell_94 : decode cX13_atCell 94 = .ok (.iconst 0, 1) := by decide +kernel
theorem dX13_atCell_95 : decode cX13_atCell 95 = .ok (.istore 4, 2) := by decide +kernel
theorem dX13_atCell_97 : decode cX13_atCell 97 = .ok (.iload 4, 2) := by decide +kernel
theorem dX13_atCell_99 : decode cX13_atCell 99 = .ok (.ifCond .eq 15, 3) := by decide +kernel
theorem dX13_atCell_102 : decode cX13_atCell 102 = .ok (.aload_n 0, 1) := by decide +kernel
theorem dX13_atCell_103 : decode cX13_atCell 103 = .ok (.getfield 138, 3) := by decide +kernel
theorem dX13_atCell_106 : decode cX13_atCell 106 = .ok (.iload_n 3, 1) := by decide +kernel
theorem dX13_atCell_107 : decode cX13_atCell 107 = .ok (.aload_n 0, 1) := by decide +kernel
theorem dX13_atCell_108 : decode cX13_atCell 108 = .ok (.iload_n 1, 1) := by decide +kernel
theorem dX13_atCell_109 : decode cX13_atCell 109 = .ok (.iconst 3, 1) := by decide +kernel
theorem dX13_atCell_110 : decode cX13_atCell 110 = .ok (.invokevirtual 252, 3) := by decide +kernel
theorem dX13_atCell_113 : decode cX13_atCell 113 = .ok (.iastore, 1) := by decide +kernel
theorem dX13_atCell_114 : decode cX13_atCell 114 = .ok (.aload_n 0, 1) := by decide +kernel
theorem dX13_atCell_115 : decode cX13_atCell 115 = .ok (.getfield 101, 3) := by decide +kernel
theorem dX13_atCell_118 : decode cX13_atCell 118 = .ok (.iload_n 1, 1) := by decide +kernel
theorem dX13_atCell_119 : decode cX13_atCell 119 = .ok (.iload 4, 2) := by decide +kernel
theorem dX13_atCell_121 : decode cX13_atCell 121 = .ok (.ifCond .eq 7, 3) := by decide +kernel
theorem dX13_atCell_124 : decode cX13_atCell 124 = .ok (.iconst 1, 1) := by decide +kernel
theorem dX13_atCell_125 : decode cX13_atCell 125 = .ok (.goto 4, 3) := by decide +kernel
theorem dX13_atCell_128 : decode cX13_atCell 128 = .ok (.iconst 0, 1) := by decide +kernel
theorem dX13_atCell_129 : decode cX13_atCell 129 = .ok (.iastore, 1) := by decide +kernel
theorem dX13_atCell_130 : decode cX13_atCell 130 = .ok (.iconst 1, 1) := by decide +kernel
theorem dX13_atCell_131 : decode cX13_atCell 131 = .ok (.ireturn, 1) := by decide +kernel
theorem dX13_atSemaphore_0 : decode cX13_atSemaphore 0 = .ok (.aload_n 0, 1) := by decide +kernel
theorem dX13_atSemaphore_1 : decode cX13_atSemaphore 1 = .ok (.iload_n 1, 1) := by decide +kernel
theorem dX13_atSemaphore_2 : decode cX13_atSemaphore 2 = .ok (.iconst 2, 1) := by decide +kernel
theorem dX13_atSemaphore_3 : decode cX13_atSemaphore 3 = .ok (.invokevirtual 252, 3) := by decide +kernel
theorem dX13_atSemaphore_6 : decode cX13_atSemaphore 6 = .ok (.istore 4, 2) := by decide +kernel
theorem dX13_atSemaphore_8 : decode cX13_atSemaphore 8 = .ok (.iload_n 2, 1) := by decide +kernel
theorem dX13_atSemaphore_9 : decode cX13_atSemaphore 9 = .ok (.bipush 17, 2) := by decide +kernel
theorem dX13_atSemaphore_11 : decode cX13_atSemaphore 11 = .ok (.if_icmp .ne 44, 3) := by decide +kernel
theorem dX13_atSemaphore_14 : decode cX13_atSemaphore 14 = .ok (.aload_n 0, 1) := by decide +kernel
theorem dX13_atSemaphore_15 : decode cX13_atSemaphore 15 = .ok (.getfield 138, 3) := by decide +kernel
theorem dX13_atSemaphore_18 : decode cX13_atSemaphore 18 = .ok (.iload_n 3, 1) := by decide +kernel
theorem dX13_atSemaphore_19 : decode cX13_atSemaphore 19 = .ok (.iaload, 1) := by decide +kernel
theorem dX13_atSemaphore_20 : decode cX13_atSemaphore 20 = .ok (.iload 4, 2) := by decide +kernel
theorem dX13_atSemaphore_22 : decode cX13_atSemaphore 22 = .ok (.if_icmp .lt 12, 3) := by decide +kernel
theorem dX13_atSemaphore_25 : decode cX13_atSemaphore 25 = .ok (.aload_n 0, 1) := by decide +kernel
theorem dX13_atSemaphore_26 : decode cX13_atSemaphore 26 = .ok (.getfield 150, 3) := by decide +kernel
theorem dX13_atSemaphore_29 : decode cX13_atSemaphore 29 = .ok (.iload_n 3, 1) := by decide +kernel
theorem dX13_atSemaphore_30 : decode cX13_atSemaphore 30 = .ok (.iaload, 1) := by decide +kernel
theorem dX13_atSemaphore_31 : decode cX13_atSemaphore 31 = .ok (.ifCond .le 10, 3) := by decide +kernel
theorem dX13_atSemaphore_34 : decode cX13_atSemaphore 34 = .ok (.aload_n 0, 1) := by decide +kernel
theorem dX13_atSemaphore_35 : decode cX13_atSemaphore 35 = .ok (.iload_n 1, 1) := by decide +kernel
theorem dX13_atSemaphore_36 : decode cX13_atSemaphore 36 = .ok (.iload_n 3, 1) := by decide +kernel
theorem dX13_atSemaphore_37 : decode cX13_atSemaphore 37 = .ok (.invokevirtual 286, 3) := by decide +kernel
theorem dX13_atSemaphore_40 : decode cX13_atSemaphore 40 = .ok (.ireturn, 1) := by decide +kernel
theorem dX13_atSemaphore_41 : decode cX13_atSemaphore 41 = .ok (.aload_n 0, 1) := by decide +kernel
theorem dX13_atSemaphore_42 : decode cX13_atSemaphore 42 = .ok (.getfield 138, 3) := by decide +kernel
theorem dX13_atSemaphore_45 : decode cX13_atSemaphore 45 = .ok (.iload_n 3, 1) := by decide +kernel
theorem dX13_atSemaphore_46 : decode cX13_atSemaphore 46 = .ok (.dup2, 1) := by decide +kernel
theorem dX13_atSemaphore_47 : decode cX13_atSemaphore 47 = .ok (.iaload, 1) := by decide +kernel
theorem dX13_atSemaphore_48 : decode cX13_atSemaphore 48 = .ok (.iload 4, 2) := by decide +kernel
theorem dX13_atSemaphore_50 : decode cX13_atSemaphore 50 = .ok (.isub, 1) := by decide +kernel
theorem dX13_atSemaphore_51 : decode cX13_atSemaphore 51 = .ok (.iastore, 1) := by decide +kernel
theorem dX13_atSemaphore_52 : decode cX13_atSemaphore 52 = .ok (.goto 125, 3) := by decide +kernel
theorem dX13_atSemaphore_55 : decode cX13_atSemaphore 55 = .ok (.iload_n 2, 1) := by decide +kernel
theorem dX13_atSemaphore_56 : decode cX13_atSemaphore 56 = .ok (.bipush 18, 2) := by decide +kernel
theorem dX13_atSemaphore_58 : decode cX13_atSemaphore 58 = .ok (.if_icmp .ne 78, 3) := by decide +kernel
theorem dX13_atSemaphore_61 : decode cX13_atSemaphore 61 = .ok (.aload_n 0, 1) := by decide +kernel
theorem dX13_atSemaphore_62 : decode cX13_atSemaphore 62 = .ok (.getfield 138, 3) := by decide +kernel
theorem dX13_atSemaphore_65 : decode cX13_atSemaphore 65 = .ok (.iload_n 3, 1) := by decide +kernel
theorem dX13_atSemaphore_66 : decode cX13_atSemaphore 66 = .ok (.dup2, 1) := by decide +kernel
theorem dX13_atSemaphore_67 : decode cX13_atSemaphore 67 = .ok (.iaload, 1) := by decide +kernel
theorem dX13_atSemaphore_68 : decode cX13_atSemaphore 68 = .ok (.iload 4, 2) := by decide +kernel
theorem dX13_atSemaphore_70 : decode cX13_atSemaphore 70 = .ok (.iadd, 1) := by decide +kernel
theorem dX13_atSemaphore_71 : decode cX13_atSemaphore 71 = .ok (.iastore, 1) := by decide +kernel
theorem dX13_atSemaphore_72 : decode cX13_atSemaphore 72 = .ok (.aload_n 0, 1) := by decide +kernel
theorem dX13_atSemaphore_73 : decode cX13_atSemaphore 73 = .ok (.getfield 150, 3) := by decide +kernel
theorem dX13_atSemaphore_76 : decode cX13_atSemaphore 76 = .ok (.iload_n 3, 1) := by decide +kernel
theorem dX13_atSemaphore_77 : decode cX13_atSemaphore 77 = .ok (.iaload, 1) := by decide +kernel
theorem dX13_atSemaphore_78 : decode cX13_atSemaphore 78 = .ok (.ifCond .le 99, 3) := by decide +kernel
theorem dX13_atSemaphore_81 : decode cX13_atSemaphore 81 = .ok (.aload_n 0, 1) := by decide +kernel
theorem dX13_atSemaphore_82 : decode cX13_atSemaphore 82 = .ok (.getfield 138, 3) := by decide +kernel
theorem dX13_atSemaphore_85 : decode cX13_atSemaphore 85 = .ok (.iload_n 3, 1) := by decide +kernel
theorem dX13_atSemaphore_86 : decode cX13_atSemaphore 86 = .ok (.iaload, 1) := by decide +kernel
theorem dX13_atSemaphore_87 : decode cX13_atSemaphore 87 = .ok (.aload_n 0, 1) := by decide +kernel
theorem dX13_atSemaphore_88 : decode cX13_atSemaphore 88 = .ok (.aload_n 0, 1) := by decide +kernel
theorem dX13_atSemaphore_89 : decode cX13_atSemaphore 89 = .ok (.getfield 147, 3) := by decide +kernel
theorem dX13_atSemaphore_92 : decode cX13_atSemaphore 92 = .ok (.bipush 8, 2) := by decide +kernel
theorem dX13_atSemaphore_94 : decode cX13_atSemaphore 94 = .ok (.iload_n 3, 1) := by decide +kernel
theorem dX13_atSemaphore_95 : decode cX13_atSemaphore 95 = .ok (.imul, 1) := by decide +kernel
theorem dX13_atSemaphore_96 : decode cX13_atSemaphore 96 = .ok (.iaload, 1) := by decide +kernel
theorem dX13_atSemaphore_97 : decode cX13_atSemaphore 97 = .ok (.iconst 2, 1) := by decide +kernel
theorem dX13_atSemaphore_98 : decode cX13_atSemaphore 98 = .ok (.invokevirtual 252, 3) := by decide +kernel
theorem dX13_atSemaphore_101 : decode cX13_atSemaphore 101 = .ok (.if_icmp .lt 76, 3) := by decide +kernel
theorem dX13_atSemaphore_104 : decode cX13_atSemaphore 104 = .ok (.aload_n 0, 1) := by decide +kernel
theorem dX13_atSemaphore_105 : decode cX13_atSemaphore 105 = .ok (.getfield 138, 3) := by decide +kernel
theorem dX13_atSemaphore_108 : decode cX13_atSemaphore 108 = .ok (.iload_n 3, 1) := by decide +kernel
theorem dX13_atSemaphore_109 : decode cX13_atSemaphore 109 = .ok (.dup2, 1) := by decide +kernel
theorem dX13_atSemaphore_110 : decode cX13_atSemaphore 110 = .ok (.iaload, 1) := by decide +kernel
theorem dX13_atSemaphore_111 : decode cX13_atSemaphore 111 = .ok (.aload_n 0, 1) := by decide +kernel
theorem dX13_atSemaphore_112 : decode cX13_atSemaphore 112 = .ok (.aload_n 0, 1) := by decide +kernel
theorem dX13_atSemaphore_113 : decode cX13_atSemaphore 113 = .ok (.getfield 147, 3) := by decide +kernel
theorem dX13_atSemaphore_116 : decode cX13_atSemaphore 116 = .ok (.bipush 8, 2) := by decide +kernel
theorem dX13_atSemaphore_118 : decode cX13_atSemaphore 118 = .ok (.iload_n 3, 1) := by decide +kernel
theorem dX13_atSemaphore_119 : decode cX13_atSemaphore 119 = .ok (.imul, 1) := by decide +kernel
theorem dX13_atSemaphore_120 : decode cX13_atSemaphore 120 = .ok (.iaload, 1) := by decide +kernel
theorem dX13_atSemaphore_121 : decode cX13_atSemaphore 121 = .ok (.iconst 2, 1) := by decide +kernel
theorem dX13_atSemaphore_122 : decode cX13_atSemaphore 122 = .ok (.invokevirtual 252, 3) := by decide +kernel
theorem dX13_atSemaphore_125 : decode cX13_atSemaphore 125 = .ok (.isub, 1) := by decide +kernel
theorem dX13_atSemaphore_126 : decode cX13_atSemaphore 126 = .ok (.iastore, 1) := by decide +kernel
theorem dX13_atSemaphore_127 : decode cX13_atSemaphore 127 = .ok (.aload_n 0, 1) := by decide +kernel
theorem dX13_atSemaphore_128 : decode cX13_atSemaphore 128 = .ok (.iload_n 3, 1) := by decide +kernel
theorem dX13_atSemaphore_129 : decode cX13_atSemaphore 129 = .ok (.invokevirtual 283, 3) := by decide +kernel
theorem dX13_atSemaphore_132 : decode cX13_atSemaphore 132 = .ok (.pop, 1) := by decide +kernel
theorem dX13_atSemaphore_133 : decode cX13_atSemaphore 133 = .ok (.goto (-61), 3) := by decide +kernel
theorem dX13_atSemaphore_136 : decode cX13_atSemaphore 136 = .ok (.aload_n 0, 1) := by decide +kernel
theorem dX13_atSemaphore_137 : decode cX13_atSemaphore 137 = .ok (.getfield 101, 3) := by decide +kernel
theorem dX13_atSemaphore_140 : decode cX13_atSemaphore 140 = .ok (.iload_n 1, 1) := by decide +kernel
theorem dX13_atSemaphore_141 : decode cX13_atSemaphore 141 = .ok (.aload_n 0, 1) := by decide +kernel
theorem dX13_atSemaphore_142 : decode cX13_atSemaphore 142 = .ok (.getfield 138, 3) := by decide +kernel
theorem dX13_atSemaphore_145 : decode cX13_atSemaphore 145 = .ok (.iload_n 3, 1) := by decide +kernel
theorem dX13_atSemaphore_146 : decode cX13_atSemaphore 146 = .ok (.iaload, 1) := by decide +kernel
theorem dX13_atSemaphore_147 : decode cX13_atSemaphore 147 = .ok (.ifCond .le 12, 3) := by decide +kernel
theorem dX13_atSemaphore_150 : decode cX13_atSemaphore 150 = .ok (.aload_n 0, 1) := by decide +kernel
theorem dX13_atSemaphore_151 : decode cX13_atSemaphore 151 = .ok (.getfield 138, 3) := by decide +kernel
theorem dX13_atSemaphore_154 : decode cX13_atSemaphore 154 = .ok (.iload_n 3, 1) := by decide +kernel
theorem dX13_atSemaphore_155 : decode cX13_atSemaphore 155 = .ok (.iaload, 1) := by decide +kernel
theorem dX13_atSemaphore_156 : decode cX13_atSemaphore 156 = .ok (.goto 4, 3) := by decide +kernel
theorem dX13_atSemaphore_159 : decode cX13_atSemaphore 159 = .ok (.iconst 0, 1) := by decide +kernel
theorem dX13_atSemaphore_160 : decode cX13_atSemaphore 160 = .ok (.iastore, 1) := by decide +kernel
theorem dX13_atSemaphore_161 : decode cX13_atSemaphore 161 = .ok (.aload_n 0, 1) := by decide +kernel
theorem dX13_atSemaphore_162 : decode cX13_atSemaphore 162 = .ok (.getfield 138, 3) := by decide +kernel
theorem dX13_atSemaphore_165 : decode cX13_atSemaphore 165 = .ok (.iload_n 3, 1) := by decide +kernel
theorem dX13_atSemaphore_166 : decode cX13_atSemaphore 166 = .ok (.iaload, 1) := by decide +kernel
theorem dX13_atSemaphore_167 : decode cX13_atSemaphore 167 = .ok (.ifCond .le 10, 3) := by decide +kernel
theorem dX13_atSemaphore_170 : decode cX13_atSemaphore 170 = .ok (.aload_n 0, 1) := by decide +kernel
theorem dX13_atSemaphore_171 : decode cX13_atSemaphore 171 = .ok (.getfield 138, 3) := by decide +kernel
theorem dX13_atSemaphore_174 : decode cX13_atSemaphore 174 = .ok (.iload_n 3, 1) := by decide +kernel
theorem dX13_atSemaphore_175 : decode cX13_atSemaphore 175 = .ok (.iconst 0, 1) := by decide +kernel
theorem dX13_atSemaphore_176 : decode cX13_atSemaphore 176 = .ok (.iastore, 1) := by decide +kernel
theorem dX13_atSemaphore_177 : decode cX13_atSemaphore 177 = .ok (.iconst 1, 1) := by decide +kernel
theorem dX13_atSemaphore_178 : decode cX13_atSemaphore 178 = .ok (.ireturn, 1) := by decide +kernel
theorem dX13_append_0 : decode cX13_append 0 = .ok (.aload_n 0, 1) := by decide +kernel
theorem dX13_append_1 : decode cX13_append 1 = .ok (.getfield 159, 3) := by decide +kernel
theorem dX13_append_4 : decode cX13_append 4 = .ok (.bipush 100, 2) := by decide +kernel
theorem dX13_append_6 : decode cX13_append 6 = .ok (.iload_n 1, 1) := by decide +kernel
theorem dX13_append_7 : decode cX13_append 7 = .ok (.imul, 1) := by decide +kernel
theorem dX13_append_8 : decode cX13_append 8 = .ok (.aload_n 0, 1) := by decide +kernel
theorem dX13_append_9 : decode cX13_append 9 = .ok (.getfield 162, 3) := by decide +kernel
theorem dX13_append_12 : decode cX13_append 12 = .ok (.iload_n 1, 1) := by decide +kernel
theorem dX13_append_13 : decode cX13_append 13 = .ok (.iaload, 1) := by decide +kernel
theorem dX13_append_14 : decode cX13_append 14 = .ok (.iadd, 1) := by decide +kernel
theorem dX13_append_15 : decode cX13_append 15 = .ok (.iload_n 2, 1) := by decide +kernel
theorem dX13_append_16 : decode cX13_append 16 = .ok (.iastore, 1) := by decide +kernel
theorem dX13_append_17 : decode cX13_append 17 = .ok (.aload_n 0, 1) := by decide +kernel
theorem dX13_append_18 : decode cX13_append 18 = .ok (.getfield 162, 3) := by decide +kernel
theorem dX13_append_21 : decode cX13_append 21 = .ok (.iload_n 1, 1) := by decide +kernel
theorem dX13_append_22 : decode cX13_append 22 = .ok (.dup2, 1) := by decide +kernel
theorem dX13_append_23 : decode cX13_append 23 = .ok (.iaload, 1) := by decide +kernel
theorem dX13_append_24 : decode cX13_append 24 = .ok (.iconst 1, 1) := by decide +kernel
theorem dX13_append_25 : decode cX13_append 25 = .ok (.iadd, 1) := by decide +kernel
theorem dX13_append_26 : decode cX13_append 26 = .ok (.iastore, 1) := by decide +kernel
theorem dX13_append_27 : decode cX13_append 27 = .ok (.return_, 1) := by decide +kernel
theorem dX13_atQueue_0 : decode cX13_atQueue 0 = .ok (.iload_n 2, 1) := by decide +kernel
theorem dX13_atQueue_1 : decode cX13_atQueue 1 = .ok (.bipush 23, 2) := by decide +kernel
theorem dX13_atQueue_3 : decode cX13_atQueue 3 = .ok (.if_icmp .eq 9, 3) := by decide +kernel
theorem dX13_atQueue_6 : decode cX13_atQueue 6 = .ok (.iload_n 2, 1) := by decide +kernel
theorem dX13_atQueue_7 : decode cX13_atQueue 7 = .ok (.bipush 25, 2) := by decide +kernel
theorem dX13_atQueue_9 : decode cX13_atQueue 9 = .ok (.if_icmp .ne 132, 3) := by decide +kernel
theorem dX13_atQueue_12 : decode cX13_atQueue 12 = .ok (.aload_n 0, 1) := by decide +kernel
theorem dX13_atQueue_13 : decode cX13_atQueue 13 = .ok (.getfield 150, 3) := by decide +kernel
theorem dX13_atQueue_16 : decode cX13_atQueue 16 = .ok (.iload_n 3, 1) := by decide +kernel
theorem dX13_atQueue_17 : decode cX13_atQueue 17 = .ok (.iaload, 1) := by decide +kernel
theorem dX13_atQueue_18 : decode cX13_atQueue 18 = .ok (.ifCond .le 26, 3) := by decide +kernel
theorem dX13_atQueue_21 : decode cX13_atQueue 21 = .ok (.aload_n 0, 1) := by decide +kernel
theorem dX13_atQueue_22 : decode cX13_atQueue 22 = .ok (.aload_n 0, 1) := by decide +kernel
theorem dX13_atQueue_23 : decode cX13_atQueue 23 = .ok (.getfield 147, 3) := by decide +kernel
theorem dX13_atQueue_26 : decode cX13_atQueue 26 = .ok (.bipush 8, 2) := by decide +kernel
theorem dX13_atQueue_28 : decode cX13_atQueue 28 = .ok (.iload_n 3, 1) := by decide +kernel
theorem dX13_atQueue_29 : decode cX13_atQueue 29 = .ok (.imul, 1) := by decide +kernel
theorem dX13_atQueue_30 : decode cX13_atQueue 30 = .ok (.iaload, 1) := by decide +kernel
theorem dX13_atQueue_31 : decode cX13_atQueue 31 = .ok (.iconst 0, 1) := by decide +kernel
theorem dX13_atQueue_32 : decode cX13_atQueue 32 = .ok (.invokevirtual 252, 3) := by decide +kernel
theorem dX13_atQueue_35 : decode cX13_atQueue 35 = .ok (.bipush 23, 2) := by decide +kernel
theorem dX13_atQueue_37 : decode cX13_atQueue 37 = .ok (.if_icmp .eq 7, 3) := by decide +kernel
theorem dX13_atQueue_40 : decode cX13_atQueue 40 = .ok (.iconst 1, 1) := by decide +kernel
theorem dX13_atQueue_41 : decode cX13_atQueue 41 = .ok (.goto 4, 3) := by decide +kernel
theorem dX13_atQueue_44 : decode cX13_atQueue 44 = .ok (.iconst 0, 1) := by decide +kernel
theorem dX13_atQueue_45 : decode cX13_atQueue 45 = .ok (.istore 4, 2) := by decide +kernel
theorem dX13_atQueue_47 : decode cX13_atQueue 47 = .ok (.iload 4, 2) := by decide +kernel
theorem dX13_atQueue_49 : decode cX13_atQueue 49 = .ok (.ifCond .eq 26, 3) := by decide +kernel
theorem dX13_atQueue_52 : decode cX13_atQueue 52 = .ok (.aload_n 0, 1) := by decide +kernel
theorem dX13_atQueue_53 : decode cX13_atQueue 53 = .ok (.iload_n 3, 1) := by decide +kernel
theorem dX13_atQueue_54 : decode cX13_atQueue 54 = .ok (.invokevirtual 283, 3) := by decide +kernel
theorem dX13_atQueue_57 : decode cX13_atQueue 57 = .ok (.istore 5, 2) := by decide +kernel
theorem dX13_atQueue_59 : decode cX13_atQueue 59 = .ok (.aload_n 0, 1) := by decide +kernel
theorem dX13_atQueue_60 : decode cX13_atQueue 60 = .ok (.getfield 101, 3) := by decide +kernel
theorem dX13_atQueue_63 : decode cX13_atQueue 63 = .ok (.iload 5, 2) := by decide +kernel
theorem dX13_atQueue_65 : decode cX13_atQueue 65 = .ok (.aload_n 0, 1) := by decide +kernel
theorem dX13_atQueue_66 : decode cX13_atQueue 66 = .ok (.getfield 101, 3) := by decide +kernel
theorem dX13_atQueue_69 : decode cX13_atQueue 69 = .ok (.iload_n 1, 1) := by decide +kernel
theorem dX13_atQueue_70 : decode cX13_atQueue 70 = .ok (.iaload, 1) := by decide +kernel
theorem dX13_atQueue_71 : decode cX13_atQueue 71 = .ok (.iastore, 1) := by decide +kernel
theorem dX13_atQueue_72 : decode cX13_atQueue 72 = .ok (.goto 54, 3) := by decide +kernel
theorem dX13_atQueue_75 : decode cX13_atQueue 75 = .ok (.aload_n 0, 1) := by decide +kernel
theorem dX13_atQueue_76 : decode cX13_atQueue 76 = .ok (.getfield 162, 3) := by decide +kernel
theorem dX13_atQueue_79 : decode cX13_atQueue 79 = .ok (.iload_n 3, 1) := by decide +kernel
theorem dX13_atQueue_80 : decode cX13_atQueue 80 = .ok (.iaload, 1) := by decide +kernel
theorem dX13_atQueue_81 : decode cX13_atQueue 81 = .ok (.aload_n 0, 1) := by decide +kernel
theorem dX13_atQueue_82 : decode cX13_atQueue 82 = .ok (.getfield 138, 3) := by decide +kernel
theorem dX13_atQueue_85 : decode cX13_atQueue 85 = .ok (.iload_n 3, 1) := by decide +kernel
theorem dX13_atQueue_86 : decode cX13_atQueue 86 = .ok (.iaload, 1) := by decide +kernel
theorem dX13_atQueue_87 : decode cX13_atQueue 87 = .ok (.if_icmp .ge 17, 3) := by decide +kernel
theorem dX13_atQueue_90 : decode cX13_atQueue 90 = .ok (.aload_n 0, 1) := by decide +kernel
theorem dX13_atQueue_91 : decode cX13_atQueue 91 = .ok (.iload_n 3, 1) := by decide +kernel
theorem dX13_atQueue_92 : decode cX13_atQueue 92 = .ok (.aload_n 0, 1) := by decide +kernel
theorem dX13_atQueue_93 : decode cX13_atQueue 93 = .ok (.getfield 101, 3) := by decide +kernel
theorem dX13_atQueue_96 : decode cX13_atQueue 96 = .ok (.iload_n 1, 1) := by decide +kernel
theorem dX13_atQueue_97 : decode cX13_atQueue 97 = .ok (.iaload, 1) := by decide +kernel
theorem dX13_atQueue_98 : decode cX13_atQueue 98 = .ok (.invokevirtual 292, 3) := by decide +kernel
theorem dX13_atQueue_101 : decode cX13_atQueue 101 = .ok (.goto 25, 3) := by decide +kernel
theorem dX13_atQueue_104 : decode cX13_atQueue 104 = .ok (.iload_n 2, 1) := by decide +kernel
theorem dX13_atQueue_105 : decode cX13_atQueue 105 = .ok (.bipush 25, 2) := by decide +kernel
theorem dX13_atQueue_107 : decode cX13_atQueue 107 = .ok (.if_icmp .ne 12, 3) := by decide +kernel
theorem dX13_atQueue_110 : decode cX13_atQueue 110 = .ok (.aload_n 0, 1) := by decide +kernel
theorem dX13_atQueue_111 : decode cX13_atQueue 111 = .ok (.getfield 101, 3) := by decide +kernel
theorem dX13_atQueue_114 : decode cX13_atQueue 114 = .ok (.iload_n 1, 1) := by decide +kernel
theorem dX13_atQueue_115 : decode cX13_atQueue 115 = .ok (.iconst 0, 1) := by decide +kernel
theorem dX13_atQueue_116 : decode cX13_atQueue 116 = .ok (.iastore, 1) := by decide +kernel
theorem dX13_atQueue_117 : decode cX13_atQueue 117 = .ok (.iconst 1, 1) := by decide +kernel
theorem dX13_atQueue_118 : decode cX13_atQueue 118 = .ok (.ireturn, 1) := by decide +kernel
theorem dX13_atQueue_119 : decode cX13_atQueue 119 = .ok (.aload_n 0, 1) := by decide +kernel
theorem dX13_atQueue_120 : decode cX13_atQueue 120 = .ok (.iload_n 1, 1) := by decide +kernel
theorem dX13_atQueue_121 : decode cX13_atQueue 121 = .ok (.iload_n 3, 1) := by decide +kernel
theorem dX13_atQueue_122 : decode cX13_atQueue 122 = .ok (.invokevirtual 286, 3) := by decide +kernel
theorem dX13_atQueue_125 : decode cX13_atQueue 125 = .ok (.ireturn, 1) := by decide +kernel
theorem dX13_atQueue_126 : decode cX13_atQueue 126 = .ok (.iload_n 2, 1) := by decide +kernel
theorem dX13_atQueue_127 : decode cX13_atQueue 127 = .ok (.bipush 25, 2) := by decide +kernel
theorem dX13_atQueue_129 : decode cX13_atQueue 129 = .ok (.if_icmp .ne 10, 3) := by decide +kernel
theorem dX13_atQueue_132 : decode cX13_atQueue 132 = .ok (.aload_n 0, 1) := by decide +kernel
theorem dX13_atQueue_133 : decode cX13_atQueue 133 = .ok (.getfield 101, 3) := by decide +kernel
theorem dX13_atQueue_136 : decode cX13_atQueue 136 = .ok (.iload_n 1, 1) := by decide +kernel
theorem dX13_atQueue_137 : decode cX13_atQueue 137 = .ok (.iconst 1, 1) := by decide +kernel
theorem dX13_atQueue_138 : decode cX13_atQueue 138 = .ok (.iastore, 1) := by decide +kernel
theorem dX13_atQueue_139 : decode cX13_atQueue 139 = .ok (.iconst 1, 1) := by decide +kernel
theorem dX13_atQueue_140 : decode cX13_atQueue 140 = .ok (.ireturn, 1) := by decide +kernel
theorem dX13_atQueue_141 : decode cX13_atQueue 141 = .ok (.aload_n 0, 1) := by decide +kernel
theorem dX13_atQueue_142 : decode cX13_atQueue 142 = .ok (.getfield 162, 3) := by decide +kernel
theorem dX13_atQueue_145 : decode cX13_atQueue 145 = .ok (.iload_n 3, 1) := by decide +kernel
theorem dX13_atQueue_146 : decode cX13_atQueue 146 = .ok (.iaload, 1) := by decide +kernel
theorem dX13_atQueue_147 : decode cX13_atQueue 147 = .ok (.ifCond .ne 25, 3) := by decide +kernel
theorem dX13_atQueue_150 : decode cX13_atQueue 150 = .ok (.iload_n 2, 1) := by decide +kernel
theorem dX13_atQueue_151 : decode cX13_atQueue 151 = .ok (.bipush 24, 2) := by decide +kernel
theorem dX13_atQueue_153 : decode cX13_atQueue 153 = .ok (.if_icmp .ne 10, 3) := by decide +kernel
theorem dX13_atQueue_156 : decode cX13_atQueue 156 = .ok (.aload_n 0, 1) := by decide +kernel
theorem dX13_atQueue_157 : decode cX13_atQueue 157 = .ok (.iload_n 1, 1) := by decide +kernel
theorem dX13_atQueue_158 : decode cX13_atQueue 158 = .ok (.iload_n 3, 1) := by decide +kernel
theorem dX13_atQueue_159 : decode cX13_atQueue 159 = .ok (.invokevirtual 286, 3) := by decide +kernel
theorem dX13_atQueue_162 : decode cX13_atQueue 162 = .ok (.ireturn, 1) := by decide +kernel
theorem dX13_atQueue_163 : decode cX13_atQueue 163 = .ok (.aload_n 0, 1) := by decide +kernel
theorem dX13_atQueue_164 : decode cX13_atQueue 164 = .ok (.getfield 101, 3) := by decide +kernel
theorem dX13_atQueue_167 : decode cX13_atQueue 167 = .ok (.iload_n 1, 1) := by decide +kernel
theorem dX13_atQueue_168 : decode cX13_atQueue 168 = .ok (.iconst (-1), 1) := by decide +kernel
theorem dX13_atQueue_169 : decode cX13_atQueue 169 = .ok (.iastore, 1) := by decide +kernel
theorem dX13_atQueue_170 : decode cX13_atQueue 170 = .ok (.iconst 1, 1) := by decide +kernel
theorem dX13_atQueue_171 : decode cX13_atQueue 171 = .ok (.ireturn, 1) := by decide +kernel
theorem dX13_atQueue_172 : decode cX13_atQueue 172 = .ok (.aload_n 0, 1) := by decide +kernel
theorem dX13_atQueue_173 : decode cX13_atQueue 173 = .ok (.getfield 101, 3) := by decide +kernel
theorem dX13_atQueue_176 : decode cX13_atQueue 176 = .ok (.iload_n 1, 1) := by decide +kernel
theorem dX13_atQueue_177 : decode cX13_atQueue 177 = .ok (.aload_n 0, 1) := by decide +kernel
theorem dX13_atQueue_178 : decode cX13_atQueue 178 = .ok (.getfield 159, 3) := by decide +kernel
theorem dX13_atQueue_181 : decode cX13_atQueue 181 = .ok (.bipush 100, 2) := by decide +kernel
theorem dX13_atQueue_183 : decode cX13_atQueue 183 = .ok (.iload_n 3, 1) := by decide +kernel
theorem dX13_atQueue_184 : decode cX13_atQueue 184 = .ok (.imul, 1) := by decide +kernel
theorem dX13_atQueue_185 : decode cX13_atQueue 185 = .ok (.iaload, 1) := by decide +kernel
theorem dX13_atQueue_186 : decode cX13_atQueue 186 = .ok (.iastore, 1) := by decide +kernel
theorem dX13_atQueue_187 : decode cX13_atQueue 187 = .ok (.aload_n 0, 1) := by decide +kernel
theorem dX13_atQueue_188 : decode cX13_atQueue 188 = .ok (.getfield 162, 3) := by decide +kernel
theorem dX13_atQueue_191 : decode cX13_atQueue 191 = .ok (.iload_n 3, 1) := by decide +kernel
theorem dX13_atQueue_192 : decode cX13_atQueue 192 = .ok (.dup2, 1) := by decide +kernel
theorem dX13_atQueue_193 : decode cX13_atQueue 193 = .ok (.iaload, 1) := by decide +kernel
theorem dX13_atQueue_194 : decode cX13_atQueue 194 = .ok (.iconst 1, 1) := by decide +kernel
theorem dX13_atQueue_195 : decode cX13_atQueue 195 = .ok (.isub, 1) := by decide +kernel
theorem dX13_atQueue_196 : decode cX13_atQueue 196 = .ok (.iastore, 1) := by decide +kernel
theorem dX13_atQueue_197 : decode cX13_atQueue 197 = .ok (.iconst 0, 1) := by decide +kernel
theorem dX13_atQueue_198 : decode cX13_atQueue 198 = .ok (.istore 4, 2) := by decide +kernel
theorem dX13_atQueue_200 : decode cX13_atQueue 200 = .ok (.iload 4, 2) := by decide +kernel
theorem dX13_atQueue_202 : decode cX13_atQueue 202 = .ok (.aload_n 0, 1) := by decide +kernel
theorem dX13_atQueue_203 : decode cX13_atQueue 203 = .ok (.getfield 162, 3) := by decide +kernel
theorem dX13_atQueue_206 : decode cX13_atQueue 206 = .ok (.iload_n 3, 1) := by decide +kernel
theorem dX13_atQueue_207 : decode cX13_atQueue 207 = .ok (.iaload, 1) := by decide +kernel
theorem dX13_atQueue_208 : decode cX13_atQueue 208 = .ok (.if_icmp .ge 35, 3) := by decide +kernel
theorem dX13_atQueue_211 : decode cX13_atQueue 211 = .ok (.aload_n 0, 1) := by decide +kernel
theorem dX13_atQueue_212 : decode cX13_atQueue 212 = .ok (.getfield 159, 3) := by decide +kernel
theorem dX13_atQueue_215 : decode cX13_atQueue 215 = .ok (.bipush 100, 2) := by decide +kernel
theorem dX13_atQueue_217 : decode cX13_atQueue 217 = .ok (.iload_n 3, 1) := by decide +kernel
theorem dX13_atQueue_218 : decode cX13_atQueue 218 = .ok (.imul, 1) := by decide +kernel
theorem dX13_atQueue_219 : decode cX13_atQueue 219 = .ok (.iload 4, 2) := by decide +kernel
theorem dX13_atQueue_221 : decode cX13_atQueue 221 = .ok (.iadd, 1) := by decide +kernel
theorem dX13_atQueue_222 : decode cX13_atQueue 222 = .ok (.aload_n 0, 1) := by decide +kernel
theorem dX13_atQueue_223 : decode cX13_atQueue 223 = .ok (.getfield 159, 3) := by decide +kernel
theorem dX13_atQueue_226 : decode cX13_atQueue 226 = .ok (.bipush 100, 2) := by decide +kernel
theorem dX13_atQueue_228 : decode cX13_atQueue 228 = .ok (.iload_n 3, 1) := by decide +kernel
theorem dX13_atQueue_229 : decode cX13_atQueue 229 = .ok (.imul, 1) := by decide +kernel
theorem dX13_atQueue_230 : decode cX13_atQueue 230 = .ok (.iload 4, 2) := by decide +kernel
theorem dX13_atQueue_232 : decode cX13_atQueue 232 = .ok (.iadd, 1) := by decide +kernel
theorem dX13_atQueue_233 : decode cX13_atQueue 233 = .ok (.iconst 1, 1) := by decide +kernel
theorem dX13_atQueue_234 : decode cX13_atQueue 234 = .ok (.iadd, 1) := by decide +kernel
theorem dX13_atQueue_235 : decode cX13_atQueue 235 = .ok (.iaload, 1) := by decide +kernel
theorem dX13_atQueue_236 : decode cX13_atQueue 236 = .ok (.iastore, 1) := by decide +kernel
theorem dX13_atQueue_237 : decode cX13_atQueue 237 = .ok (.iinc 4 1, 3) := by decide +kernel
theorem dX13_atQueue_240 : decode cX13_atQueue 240 = .ok (.goto (-40), 3) := by decide +kernel
theorem dX13_atQueue_243 : decode cX13_atQueue 243 = .ok (.aload_n 0, 1) := by decide +kernel
theorem dX13_atQueue_244 : decode cX13_atQueue 244 = .ok (.getfield 150, 3) := by decide +kernel
theorem dX13_atQueue_247 : decode cX13_atQueue 247 = .ok (.iload_n 3, 1) := by decide +kernel
theorem dX13_atQueue_248 : decode cX13_atQueue 248 = .ok (.iaload, 1) := by decide +kernel
theorem dX13_atQueue_249 : decode cX13_atQueue 249 = .ok (.ifCond .le 22, 3) := by decide +kernel
theorem dX13_atQueue_252 : decode cX13_atQueue 252 = .ok (.aload_n 0, 1) := by decide +kernel
theorem dX13_atQueue_253 : decode cX13_atQueue 253 = .ok (.iload_n 3, 1) := by decide +kernel
theorem dX13_atQueue_254 : decode cX13_atQueue 254 = .ok (.invokevirtual 283, 3) := by decide +kernel
theorem dX13_atQueue_257 : decode cX13_atQueue 257 = .ok (.istore 4, 2) := by decide +kernel
theorem dX13_atQueue_259 : decode cX13_atQueue 259 = .ok (.aload_n 0, 1) := by decide +kernel
theorem dX13_atQueue_260 : decode cX13_atQueue 260 = .ok (.iload_n 3, 1) := by decide +kernel
theorem dX13_atQueue_261 : decode cX13_atQueue 261 = .ok (.aload_n 0, 1) := by decide +kernel
theorem dX13_atQueue_262 : decode cX13_atQueue 262 = .ok (.getfield 101, 3) := by decide +kernel
theorem dX13_atQueue_265 : decode cX13_atQueue 265 = .ok (.iload 4, 2) := by decide +kernel
theorem dX13_atQueue_267 : decode cX13_atQueue 267 = .ok (.iaload, 1) := by decide +kernel
theorem dX13_atQueue_268 : decode cX13_atQueue 268 = .ok (.invokevirtual 292, 3) := by decide +kernel
theorem dX13_atQueue_271 : decode cX13_atQueue 271 = .ok (.iconst 1, 1) := by decide +kernel
theorem dX13_atQueue_272 : decode cX13_atQueue 272 = .ok (.ireturn, 1) := by decide +kernel
theorem dX13_atGate_0 : decode cX13_atGate 0 = .ok (.iload_n 2, 1) := by decide +kernel
theorem dX13_atGate_1 : decode cX13_atGate 1 = .ok (.bipush 29, 2) := by decide +kernel
theorem dX13_atGate_3 : decode cX13_atGate 3 = .ok (.if_icmp .ne 41, 3) := by decide +kernel
theorem dX13_atGate_6 : decode cX13_atGate 6 = .ok (.aload_n 0, 1) := by decide +kernel
theorem dX13_atGate_7 : decode cX13_atGate 7 = .ok (.getfield 144, 3) := by decide +kernel
theorem dX13_atGate_10 : decode cX13_atGate 10 = .ok (.iload_n 3, 1) := by decide +kernel
theorem dX13_atGate_11 : decode cX13_atGate 11 = .ok (.iaload, 1) := by decide +kernel
theorem dX13_atGate_12 : decode cX13_atGate 12 = .ok (.ifCond .ge 12, 3) := by decide +kernel
theorem dX13_atGate_15 : decode cX13_atGate 15 = .ok (.aload_n 0, 1) := by decide +kernel
theorem dX13_atGate_16 : decode cX13_atGate 16 = .ok (.getfield 150, 3) := by decide +kernel
theorem dX13_atGate_19 : decode cX13_atGate 19 = .ok (.iload_n 3, 1) := by decide +kernel
theorem dX13_atGate_20 : decode cX13_atGate 20 = .ok (.iaload, 1) := by decide +kernel
theorem dX13_atGate_21 : decode cX13_atGate 21 = .ok (.ifCond .le 10, 3) := by decide +kernel
theorem dX13_atGate_24 : decode cX13_atGate 24 = .ok (.aload_n 0, 1) := by decide +kernel
theorem dX13_atGate_25 : decode cX13_atGate 25 = .ok (.iload_n 1, 1) := by decide +kernel
theorem dX13_atGate_26 : decode cX13_atGate 26 = .ok (.iload_n 3, 1) := by decide +kernel
theorem dX13_atGate_27 : decode cX13_atGate 27 = .ok (.invokevirtual 286, 3) := by decide +kernel
theorem dX13_atGate_30 : decode cX13_atGate 30 = .ok (.ireturn, 1) := by decide +kernel
theorem dX13_atGate_31 : decode cX13_atGate 31 = .ok (.aload_n 0, 1) := by decide +kernel
theorem dX13_atGate_32 : decode cX13_atGate 32 = .ok (.getfield 138, 3) := by decide +kernel
theorem dX13_atGate_35 : decode cX13_atGate 35 = .ok (.iload_n 3, 1) := by decide +kernel
theorem dX13_atGate_36 : decode cX13_atGate 36 = .ok (.dup2, 1) := by decide +kernel
theorem dX13_atGate_37 : decode cX13_atGate 37 = .ok (.iaload, 1) := by decide +kernel
theorem dX13_atGate_38 : decode cX13_atGate 38 = .ok (.iconst 1, 1) := by decide +kernel
theorem dX13_atGate_39 : decode cX13_atGate 39 = .ok (.iadd, 1) := by decide +kernel
theorem dX13_atGate_40 : decode cX13_atGate 40 = .ok (.iastore, 1) := by decide +kernel
theorem dX13_atGate_41 : decode cX13_atGate 41 = .ok (.goto 122, 3) := by decide +kernel
theorem dX13_atGate_44 : decode cX13_atGate 44 = .ok (.iload_n 2, 1) := by decide +kernel
theorem dX13_atGate_45 : decode cX13_atGate 45 = .ok (.bipush 30, 2) := by decide +kernel
theorem dX13_atGate_47 : decode cX13_atGate 47 = .ok (.if_icmp .ne 46, 3) := by decide +kernel
theorem dX13_atGate_50 : decode cX13_atGate 50 = .ok (.aload_n 0, 1) := by decide +kernel
theorem dX13_atGate_51 : decode cX13_atGate 51 = .ok (.getfield 138, 3) := by decide +kernel
theorem dX13_atGate_54 : decode cX13_atGate 54 = .ok (.iload_n 3, 1) := by decide +kernel
theorem dX13_atGate_55 : decode cX13_atGate 55 = .ok (.iaload, 1) := by decide +kernel
theorem dX13_atGate_56 : decode cX13_atGate 56 = .ok (.ifCond .ne 10, 3) := by decide +kernel
theorem dX13_atGate_59 : decode cX13_atGate 59 = .ok (.aload_n 0, 1) := by decide +kernel
theorem dX13_atGate_60 : decode cX13_atGate 60 = .ok (.iload_n 1, 1) := by decide +kernel
theorem dX13_atGate_61 : decode cX13_atGate 61 = .ok (.iconst 3, 1) := by decide +kernel
theorem dX13_atGate_62 : decode cX13_atGate 62 = .ok (.invokevirtual 264, 3) := by decide +kernel
theorem dX13_atGate_65 : decode cX13_atGate 65 = .ok (.ireturn, 1) := by decide +kernel
theorem dX13_atGate_66 : decode cX13_atGate 66 = .ok (.aload_n 0, 1) := by decide +kernel
theorem dX13_atGate_67 : decode cX13_atGate 67 = .ok (.getfield 138, 3) := by decide +kernel
theorem dX13_atGate_70 : decode cX13_atGate 70 = .ok (.iload_n 3, 1) := by decide +kernel
theorem dX13_atGate_71 : decode cX13_atGate 71 = .ok (.dup2, 1) := by decide +kernel
theorem dX13_atGate_72 : decode cX13_atGate 72 = .ok (.iaload, 1) := by decide +kernel
theorem dX13_atGate_73 : decode cX13_atGate 73 = .ok (.iconst 1, 1) := by decide +kernel
theorem dX13_atGate_74 : decode cX13_atGate 74 = .ok (.isub, 1) := by decide +kernel
theorem dX13_atGate_75 : decode cX13_atGate 75 = .ok (.iastore, 1) := by decide +kernel
theorem dX13_atGate_76 : decode cX13_atGate 76 = .ok (.aload_n 0, 1) := by decide +kernel
theorem dX13_atGate_77 : decode cX13_atGate 77 = .ok (.getfield 138, 3) := by decide +kernel
theorem dX13_atGate_80 : decode cX13_atGate 80 = .ok (.iload_n 3, 1) := by decide +kernel
theorem dX13_atGate_81 : decode cX13_atGate 81 = .ok (.iaload, 1) := by decide +kernel
theorem dX13_atGate_82 : decode cX13_atGate 82 = .ok (.ifCond .ne 81, 3) := by decide +kernel
theorem dX13_atGate_85 : decode cX13_atGate 85 = .ok (.aload_n 0, 1) := by decide +kernel
theorem dX13_atGate_86 : decode cX13_atGate 86 = .ok (.iload_n 3, 1) := by decide +kernel
theorem dX13_atGate_87 : decode cX13_atGate 87 = .ok (.invokevirtual 295, 3) := by decide +kernel
theorem dX13_atGate_90 : decode cX13_atGate 90 = .ok (.goto 73, 3) := by decide +kernel
theorem dX13_atGate_93 : decode cX13_atGate 93 = .ok (.iload_n 2, 1) := by decide +kernel
theorem dX13_atGate_94 : decode cX13_atGate 94 = .ok (.bipush 31, 2) := by decide +kernel
theorem dX13_atGate_96 : decode cX13_atGate 96 = .ok (.if_icmp .ne 38, 3) := by decide +kernel
theorem dX13_atGate_99 : decode cX13_atGate 99 = .ok (.aload_n 0, 1) := by decide +kernel
theorem dX13_atGate_100 : decode cX13_atGate 100 = .ok (.getfield 144, 3) := by decide +kernel
theorem dX13_atGate_103 : decode cX13_atGate 103 = .ok (.iload_n 3, 1) := by decide +kernel
theorem dX13_atGate_104 : decode cX13_atGate 104 = .ok (.iaload, 1) := by decide +kernel
theorem dX13_atGate_105 : decode cX13_atGate 105 = .ok (.ifCond .ge 12, 3) := by decide +kernel
theorem dX13_atGate_108 : decode cX13_atGate 108 = .ok (.aload_n 0, 1) := by decide +kernel
theorem dX13_atGate_109 : decode cX13_atGate 109 = .ok (.getfield 138, 3) := by decide +kernel
theorem dX13_atGate_112 : decode cX13_atGate 112 = .ok (.iload_n 3, 1) := by decide +kernel
theorem dX13_atGate_113 : decode cX13_atGate 113 = .ok (.iaload, 1) := by decide +kernel
theorem dX13_atGate_114 : decode cX13_atGate 114 = .ok (.ifCond .le 10, 3) := by decide +kernel
theorem dX13_atGate_117 : decode cX13_atGate 117 = .ok (.aload_n 0, 1) := by decide +kernel
theorem dX13_atGate_118 : decode cX13_atGate 118 = .ok (.iload_n 1, 1) := by decide +kernel
theorem dX13_atGate_119 : decode cX13_atGate 119 = .ok (.iload_n 3, 1) := by decide +kernel
theorem dX13_atGate_120 : decode cX13_atGate 120 = .ok (.invokevirtual 286, 3) := by decide +kernel
theorem dX13_atGate_123 : decode cX13_atGate 123 = .ok (.ireturn, 1) := by decide +kernel
theorem dX13_atGate_124 : decode cX13_atGate 124 = .ok (.aload_n 0, 1) := by decide +kernel
theorem dX13_atGate_125 : decode cX13_atGate 125 = .ok (.getfield 144, 3) := by decide +kernel
theorem dX13_atGate_128 : decode cX13_atGate 128 = .ok (.iload_n 3, 1) := by decide +kernel
theorem dX13_atGate_129 : decode cX13_atGate 129 = .ok (.iload_n 1, 1) := by decide +kernel
theorem dX13_atGate_130 : decode cX13_atGate 130 = .ok (.iastore, 1) := by decide +kernel
theorem dX13_atGate_131 : decode cX13_atGate 131 = .ok (.goto 32, 3) := by decide +kernel
theorem dX13_atGate_134 : decode cX13_atGate 134 = .ok (.aload_n 0, 1) := by decide +kernel
theorem dX13_atGate_135 : decode cX13_atGate 135 = .ok (.getfield 144, 3) := by decide +kernel
theorem dX13_atGate_138 : decode cX13_atGate 138 = .ok (.iload_n 3, 1) := by decide +kernel
theorem dX13_atGate_139 : decode cX13_atGate 139 = .ok (.iaload, 1) := by decide +kernel
theorem dX13_atGate_140 : decode cX13_atGate 140 = .ok (.iload_n 1, 1) := by decide +kernel
theorem dX13_atGate_141 : decode cX13_atGate 141 = .ok (.if_icmp .eq 10, 3) := by decide +kernel
theorem dX13_atGate_144 : decode cX13_atGate 144 = .ok (.aload_n 0, 1) := by decide +kernel
theorem dX13_atGate_145 : decode cX13_atGate 145 = .ok (.iload_n 1, 1) := by decide +kernel
theorem dX13_atGate_146 : decode cX13_atGate 146 = .ok (.iconst 1, 1) := by decide +kernel
theorem dX13_atGate_147 : decode cX13_atGate 147 = .ok (.invokevirtual 264, 3) := by decide +kernel
theorem dX13_atGate_150 : decode cX13_atGate 150 = .ok (.ireturn, 1) := by decide +kernel
theorem dX13_atGate_151 : decode cX13_atGate 151 = .ok (.aload_n 0, 1) := by decide +kernel
theorem dX13_atGate_152 : decode cX13_atGate 152 = .ok (.getfield 144, 3) := by decide +kernel
theorem dX13_atGate_155 : decode cX13_atGate 155 = .ok (.iload_n 3, 1) := by decide +kernel
theorem dX13_atGate_156 : decode cX13_atGate 156 = .ok (.iconst (-1), 1) := by decide +kernel
theorem dX13_atGate_157 : decode cX13_atGate 157 = .ok (.iastore, 1) := by decide +kernel
theorem dX13_atGate_158 : decode cX13_atGate 158 = .ok (.aload_n 0, 1) := by decide +kernel
theorem dX13_atGate_159 : decode cX13_atGate 159 = .ok (.iload_n 3, 1) := by decide +kernel
theorem dX13_atGate_160 : decode cX13_atGate 160 = .ok (.invokevirtual 295, 3) := by decide +kernel
theorem dX13_atGate_163 : decode cX13_atGate 163 = .ok (.iconst 1, 1) := by decide +kernel
theorem dX13_atGate_164 : decode cX13_atGate 164 = .ok (.ireturn, 1) := by decide +kernel
theorem dX13_opened_0 : decode cX13_opened 0 = .ok (.aload_n 0, 1) := by decide +kernel
theorem dX13_opened_1 : decode cX13_opened 1 = .ok (.getfield 150, 3) := by decide +kernel
theorem dX13_opened_4 : decode cX13_opened 4 = .ok (.iload_n 1, 1) := by decide +kernel
theorem dX13_opened_5 : decode cX13_opened 5 = .ok (.iaload, 1) := by decide +kernel
theorem dX13_opened_6 : decode cX13_opened 6 = .ok (.ifCond .le 34, 3) := by decide +kernel
theorem dX13_opened_9 : decode cX13_opened 9 = .ok (.aload_n 0, 1) := by decide +kernel
theorem dX13_opened_10 : decode cX13_opened 10 = .ok (.aload_n 0, 1) := by decide +kernel
theorem dX13_opened_11 : decode cX13_opened 11 = .ok (.getfield 147, 3) := by decide +kernel
theorem dX13_opened_14 : decode cX13_opened 14 = .ok (.bipush 8, 2) := by decide +kernel
theorem dX13_opened_16 : decode cX13_opened 16 = .ok (.iload_n 1, 1) := by decide +kernel
theorem dX13_opened_17 : decode cX13_opened 17 = .ok (.imul, 1) := by decide +kernel
theorem dX13_opened_18 : decode cX13_opened 18 = .ok (.iaload, 1) := by decide +kernel
theorem dX13_opened_19 : decode cX13_opened 19 = .ok (.iconst 0, 1) := by decide +kernel
theorem dX13_opened_20 : decode cX13_opened 20 = .ok (.invokevirtual 252, 3) := by decide +kernel
theorem dX13_opened_23 : decode cX13_opened 23 = .ok (.bipush 31, 2) := by decide +kernel
theorem dX13_opened_25 : decode cX13_opened 25 = .ok (.if_icmp .ne 15, 3) := by decide +kernel
theorem dX13_opened_28 : decode cX13_opened 28 = .ok (.aload_n 0, 1) := by decide +kernel
theorem dX13_opened_29 : decode cX13_opened 29 = .ok (.getfield 144, 3) := by decide +kernel
theorem dX13_opened_32 : decode cX13_opened 32 = .ok (.iload_n 1, 1) := by decide +kernel
theorem dX13_opened_33 : decode cX13_opened 33 = .ok (.aload_n 0, 1) := by decide +kernel
theorem dX13_opened_34 : decode cX13_opened 34 = .ok (.iload_n 1, 1) := by decide +kernel
theorem dX13_opened_35 : decode cX13_opened 35 = .ok (.invokevirtual 283, 3) := by decide +kernel
theorem dX13_opened_38 : decode cX13_opened 38 = .ok (.iastore, 1) := by decide +kernel
theorem dX13_opened_39 : decode cX13_opened 39 = .ok (.return_, 1) := by decide +kernel
theorem dX13_opened_40 : decode cX13_opened 40 = .ok (.aload_n 0, 1) := by decide +kernel
theorem dX13_opened_41 : decode cX13_opened 41 = .ok (.getfield 150, 3) := by decide +kernel
theorem dX13_opened_44 : decode cX13_opened 44 = .ok (.iload_n 1, 1) := by decide +kernel
theorem dX13_opened_45 : decode cX13_opened 45 = .ok (.iaload, 1) := by decide +kernel
theorem dX13_opened_46 : decode cX13_opened 46 = .ok (.ifCond .le 41, 3) := by decide +kernel
theorem dX13_opened_49 : decode cX13_opened 49 = .ok (.aload_n 0, 1) := by decide +kernel
theorem dX13_opened_50 : decode cX13_opened 50 = .ok (.aload_n 0, 1) := by decide +kernel
theorem dX13_opened_51 : decode cX13_opened 51 = .ok (.getfield 147, 3) := by decide +kernel
theorem dX13_opened_54 : decode cX13_opened 54 = .ok (.bipush 8, 2) := by decide +kernel
theorem dX13_opened_56 : decode cX13_opened 56 = .ok (.iload_n 1, 1) := by decide +kernel
theorem dX13_opened_57 : decode cX13_opened 57 = .ok (.imul, 1) := by decide +kernel
theorem dX13_opened_58 : decode cX13_opened 58 = .ok (.iaload, 1) := by decide +kernel
theorem dX13_opened_59 : decode cX13_opened 59 = .ok (.iconst 0, 1) := by decide +kernel
theorem dX13_opened_60 : decode cX13_opened 60 = .ok (.invokevirtual 252, 3) := by decide +kernel
theorem dX13_opened_63 : decode cX13_opened 63 = .ok (.bipush 29, 2) := by decide +kernel
theorem dX13_opened_65 : decode cX13_opened 65 = .ok (.if_icmp .ne 22, 3) := by decide +kernel
theorem dX13_opened_68 : decode cX13_opened 68 = .ok (.aload_n 0, 1) := by decide +kernel
theorem dX13_opened_69 : decode cX13_opened 69 = .ok (.iload_n 1, 1) := by decide +kernel
theorem dX13_opened_70 : decode cX13_opened 70 = .ok (.invokevirtual 283, 3) := by decide +kernel
theorem dX13_opened_73 : decode cX13_opened 73 = .ok (.pop, 1) := by decide +kernel
theorem dX13_opened_74 : decode cX13_opened 74 = .ok (.aload_n 0, 1) := by decide +kernel
theorem dX13_opened_75 : decode cX13_opened 75 = .ok (.getfield 138, 3) := by decide +kernel
theorem dX13_opened_78 : decode cX13_opened 78 = .ok (.iload_n 1, 1) := by decide +kernel
theorem dX13_opened_79 : decode cX13_opened 79 = .ok (.dup2, 1) := by decide +kernel
theorem dX13_opened_80 : decode cX13_opened 80 = .ok (.iaload, 1) := by decide +kernel
theorem dX13_opened_81 : decode cX13_opened 81 = .ok (.iconst 1, 1) := by decide +kernel
theorem dX13_opened_82 : decode cX13_opened 82 = .ok (.iadd, 1) := by decide +kernel
theorem dX13_opened_83 : decode cX13_opened 83 = .ok (.iastore, 1) := by decide +kernel
theorem dX13_opened_84 : decode cX13_opened 84 = .ok (.goto (-44), 3) := by decide +kernel
theorem dX13_opened_87 : decode cX13_opened 87 = .ok (.return_, 1) := by decide +kernel
theorem dX13_step_0 : decode cX13_step 0 = .ok (.iload_n 1, 1) := by decide +kernel
theorem dX13_step_1 : decode cX13_step 1 = .ok (.iconst 0, 1) := by decide +kernel
theorem dX13_step_2 : decode cX13_step 2 = .ok (.bipush 7, 2) := by decide +kernel
theorem dX13_step_4 : decode cX13_step 4 = .ok (.invokestatic 179, 3) := by decide +kernel
theorem dX13_step_7 : decode cX13_step 7 = .ok (.ifCond .ne 9, 3) := by decide +kernel
theorem dX13_step_10 : decode cX13_step 10 = .ok (.aload_n 0, 1) := by decide +kernel
theorem dX13_step_11 : decode cX13_step 11 = .ok (.iconst 1, 1) := by decide +kernel
theorem dX13_step_12 : decode cX13_step 12 = .ok (.invokevirtual 171, 3) := by decide +kernel
theorem dX13_step_15 : decode cX13_step 15 = .ok (.ireturn, 1) := by decide +kernel
theorem dX13_step_16 : decode cX13_step 16 = .ok (.aload_n 0, 1) := by decide +kernel
theorem dX13_step_17 : decode cX13_step 17 = .ok (.iconst 0, 1) := by decide +kernel
theorem dX13_step_18 : decode cX13_step 18 = .ok (.putfield 165, 3) := by decide +kernel
theorem dX13_step_21 : decode cX13_step 21 = .ok (.aload_n 0, 1) := by decide +kernel
theorem dX13_step_22 : decode cX13_step 22 = .ok (.getfield 98, 3) := by decide +kernel
theorem dX13_step_25 : decode cX13_step 25 = .ok (.iload_n 1, 1) := by decide +kernel
theorem dX13_step_26 : decode cX13_step 26 = .ok (.iaload, 1) := by decide +kernel
theorem dX13_step_27 : decode cX13_step 27 = .ok (.iconst 1, 1) := by decide +kernel
theorem dX13_step_28 : decode cX13_step 28 = .ok (.if_icmp .ne 8, 3) := by decide +kernel
theorem dX13_step_31 : decode cX13_step 31 = .ok (.aload_n 0, 1) := by decide +kernel
theorem dX13_step_32 : decode cX13_step 32 = .ok (.iload_n 1, 1) := by decide +kernel
theorem dX13_step_33 : decode cX13_step 33 = .ok (.invokevirtual 298, 3) := by decide +kernel
theorem dX13_step_36 : decode cX13_step 36 = .ok (.aload_n 0, 1) := by decide +kernel
theorem dX13_step_37 : decode cX13_step 37 = .ok (.getfield 98, 3) := by decide +kernel
theorem dX13_step_40 : decode cX13_step 40 = .ok (.iload_n 1, 1) := by decide +kernel
theorem dX13_step_41 : decode cX13_step 41 = .ok (.iaload, 1) := by decide +kernel
theorem dX13_step_42 : decode cX13_step 42 = .ok (.ireturn, 1) := by decide +kernel
theorem dX13_ready_0 : decode cX13_ready 0 = .ok (.iconst 0, 1) := by decide +kernel
theorem dX13_ready_1 : decode cX13_ready 1 = .ok (.istore_n 1, 1) := by decide +kernel
theorem dX13_ready_2 : decode cX13_ready 2 = .ok (.iconst 0, 1) := by decide +kernel
theorem dX13_ready_3 : decode cX13_ready 3 = .ok (.istore_n 2, 1) := by decide +kernel
theorem dX13_ready_4 : decode cX13_ready 4 = .ok (.iload_n 2, 1) := by decide +kernel
theorem dX13_ready_5 : decode cX13_ready 5 = .ok (.bipush 8, 2) := by decide +kernel
theorem dX13_ready_7 : decode cX13_ready 7 = .ok (.if_icmp .ge 27, 3) := by decide +kernel
theorem dX13_ready_10 : decode cX13_ready 10 = .ok (.iload_n 1, 1) := by decide +kernel
theorem dX13_ready_11 : decode cX13_ready 11 = .ok (.aload_n 0, 1) := by decide +kernel
theorem dX13_ready_12 : decode cX13_ready 12 = .ok (.getfield 98, 3) := by decide +kernel
theorem dX13_ready_15 : decode cX13_ready 15 = .ok (.iload_n 2, 1) := by decide +kernel
theorem dX13_ready_16 : decode cX13_ready 16 = .ok (.iaload, 1) := by decide +kernel
theorem dX13_ready_17 : decode cX13_ready 17 = .ok (.iconst 1, 1) := by decide +kernel
theorem dX13_ready_18 : decode cX13_ready 18 = .ok (.if_icmp .ne 7, 3) := by decide +kernel
theorem dX13_ready_21 : decode cX13_ready 21 = .ok (.iconst 1, 1) := by decide +kernel
theorem dX13_ready_22 : decode cX13_ready 22 = .ok (.goto 4, 3) := by decide +kernel
theorem dX13_ready_25 : decode cX13_ready 25 = .ok (.iconst 0, 1) := by decide +kernel
theorem dX13_ready_26 : decode cX13_ready 26 = .ok (.iadd, 1) := by decide +kernel
theorem dX13_ready_27 : decode cX13_ready 27 = .ok (.istore_n 1, 1) := by decide +kernel
theorem dX13_ready_28 : decode cX13_ready 28 = .ok (.iinc 2 1, 3) := by decide +kernel
theorem dX13_ready_31 : decode cX13_ready 31 = .ok (.goto (-27), 3) := by decide +kernel
theorem dX13_ready_34 : decode cX13_ready 34 = .ok (.iload_n 1, 1) := by decide +kernel
theorem dX13_ready_35 : decode cX13_ready 35 = .ok (.ireturn, 1) := by decide +kernel
theorem dX13_run_0 : decode cX13_run 0 = .ok (.iload_n 1, 1) := by decide +kernel
theorem dX13_run_1 : decode cX13_run 1 = .ok (.iconst 0, 1) := by decide +kernel
theorem dX13_run_2 : decode cX13_run 2 = .ok (.iconst 2, 1) := by decide +kernel
theorem dX13_run_3 : decode cX13_run 3 = .ok (.invokestatic 179, 3) := by decide +kernel
theorem dX13_run_6 : decode cX13_run 6 = .ok (.ifCond .eq 14, 3) := by decide +kernel
theorem dX13_run_9 : decode cX13_run 9 = .ok (.iload_n 3, 1) := by decide +kernel
theorem dX13_run_10 : decode cX13_run 10 = .ok (.iconst 0, 1) := by decide +kernel
theorem dX13_run_11 : decode cX13_run 11 = .ok (.sipush 4000, 3) := by decide +kernel
theorem dX13_run_14 : decode cX13_run 14 = .ok (.invokestatic 179, 3) := by decide +kernel
theorem dX13_run_17 : decode cX13_run 17 = .ok (.ifCond .ne 9, 3) := by decide +kernel
theorem dX13_run_20 : decode cX13_run 20 = .ok (.aload_n 0, 1) := by decide +kernel
theorem dX13_run_21 : decode cX13_run 21 = .ok (.iconst 1, 1) := by decide +kernel
theorem dX13_run_22 : decode cX13_run 22 = .ok (.invokevirtual 171, 3) := by decide +kernel
theorem dX13_run_25 : decode cX13_run 25 = .ok (.ireturn, 1) := by decide +kernel
theorem dX13_run_26 : decode cX13_run 26 = .ok (.aload_n 0, 1) := by decide +kernel
theorem dX13_run_27 : decode cX13_run 27 = .ok (.iconst 0, 1) := by decide +kernel
theorem dX13_run_28 : decode cX13_run 28 = .ok (.putfield 165, 3) := by decide +kernel
theorem dX13_run_31 : decode cX13_run 31 = .ok (.aload_n 0, 1) := by decide +kernel
theorem dX13_run_32 : decode cX13_run 32 = .ok (.iload_n 2, 1) := by decide +kernel
theorem dX13_run_33 : decode cX13_run 33 = .ok (.putfield 301, 3) := by decide +kernel
theorem dX13_run_36 : decode cX13_run 36 = .ok (.iconst 0, 1) := by decide +kernel
theorem dX13_run_37 : decode cX13_run 37 = .ok (.istore 4, 2) := by decide +kernel
theorem dX13_run_39 : decode cX13_run 39 = .ok (.iload 4, 2) := by decide +kernel
theorem dX13_run_41 : decode cX13_run 41 = .ok (.iload_n 3, 1) := by decide +kernel
theorem dX13_run_42 : decode cX13_run 42 = .ok (.if_icmp .ge 121, 3) := by decide +kernel
theorem dX13_run_45 : decode cX13_run 45 = .ok (.aload_n 0, 1) := by decide +kernel
theorem dX13_run_46 : decode cX13_run 46 = .ok (.invokevirtual 304, 3) := by decide +kernel
theorem dX13_run_49 : decode cX13_run 49 = .ok (.ifCond .le 114, 3) := by decide +kernel
theorem dX13_run_52 : decode cX13_run 52 = .ok (.iload_n 1, 1) := by decide +kernel
theorem dX13_run_53 : decode cX13_run 53 = .ok (.iconst 2, 1) := by decide +kernel
theorem dX13_run_54 : decode cX13_run 54 = .ok (.if_icmp .ne 15, 3) := by decide +kernel
theorem dX13_run_57 : decode cX13_run 57 = .ok (.aload_n 0, 1) := by decide +kernel
theorem dX13_run_58 : decode cX13_run 58 = .ok (.getfield 132, 3) := by decide +kernel
theorem dX13_run_61 : decode cX13_run 61 = .ok (.iconst 1, 1) := by decide +kernel
theorem dX13_run_62 : decode cX13_run 62 = .ok (.iadd, 1) := by decide +kernel
theorem dX13_run_63 : decode cX13_run 63 = .ok (.bipush 8, 2) := by decide +kernel
theorem dX13_run_65 : decode cX13_run 65 = .ok (.irem, 1) := by decide +kernel
theorem dX13_run_66 : decode cX13_run 66 = .ok (.goto 4, 3) := by decide +kernel
theorem dX13_run_69 : decode cX13_run 69 = .ok (.iconst 0, 1) := by decide +kernel
theorem dX13_run_70 : decode cX13_run 70 = .ok (.istore 5, 2) := by decide +kernel
theorem dX13_run_72 : decode cX13_run 72 = .ok (.iconst 0, 1) := by decide +kernel
