theorem dL_trails_0 : decode cL_trails 0 = .ok (.iconst 0, 1) := by decide +kernel
theorem dL_trails_1 : decode cL_trails 1 = .ok (.istore_n 1, 1) := by decide +kernel
theorem dL_trails_2 : decode cL_trails 2 = .ok (.iconst 0, 1) := by decide +kernel
theorem dL_trails_3 : decode cL_trails 3 = .ok (.istore_n 2, 1) := by decide +kernel
theorem dL_trails_4 : decode cL_trails 4 = .ok (.iconst 0, 1) := by decide +kernel
theorem dL_trails_5 : decode cL_trails 5 = .ok (.istore_n 3, 1) := by decide +kernel
theorem dL_trails_6 : decode cL_trails 6 = .ok (.iconst 0, 1) := by decide +kernel
theorem dL_trails_7 : decode cL_trails 7 = .ok (.istore 4, 2) := by decide +kernel
theorem dL_trails_9 : decode cL_trails 9 = .ok (.iconst 0, 1) := by decide +kernel
theorem dL_trails_10 : decode cL_trails 10 = .ok (.istore 5, 2) := by decide +kernel
theorem dL_trails_12 : decode cL_trails 12 = .ok (.iload 5, 2) := by decide +kernel
theorem dL_trails_14 : decode cL_trails 14 = .ok (.aload_n 0, 1) := by decide +kernel
theorem dL_trails_15 : decode cL_trails 15 = .ok (.iconst 0, 1) := by decide +kernel
theorem dL_trails_16 : decode cL_trails 16 = .ok (.invokestatic 88, 3) := by decide +kernel
theorem dL_trails_19 : decode cL_trails 19 = .ok (.if_icmp .ge 628, 3) := by decide +kernel
theorem dL_trails_22 : decode cL_trails 22 = .ok (.aload_n 0, 1) := by decide +kernel
theorem dL_trails_23 : decode cL_trails 23 = .ok (.iload 5, 2) := by decide +kernel
theorem dL_trails_25 : decode cL_trails 25 = .ok (.iconst 0, 1) := by decide +kernel
theorem dL_trails_26 : decode cL_trails 26 = .ok (.invokestatic 93, 3) := by decide +kernel
theorem dL_trails_29 : decode cL_trails 29 = .ok (.istore 6, 2) := by decide +kernel
theorem dL_trails_31 : decode cL_trails 31 = .ok (.ldc 96, 2) := by decide +kernel
theorem dL_trails_33 : decode cL_trails 33 = .ok (.istore 7, 2) := by decide +kernel
theorem dL_trails_35 : decode cL_trails 35 = .ok (.iconst (-1), 1) := by decide +kernel
theorem dL_trails_36 : decode cL_trails 36 = .ok (.istore 8, 2) := by decide +kernel
theorem dL_trails_38 : decode cL_trails 38 = .ok (.iconst 0, 1) := by decide +kernel
theorem dL_trails_39 : decode cL_trails 39 = .ok (.istore 9, 2) := by decide +kernel
theorem dL_trails_41 : decode cL_trails 41 = .ok (.iconst 0, 1) := by decide +kernel
theorem dL_trails_42 : decode cL_trails 42 = .ok (.istore 10, 2) := by decide +kernel
theorem dL_trails_44 : decode cL_trails 44 = .ok (.iconst 0, 1) := by decide +kernel
theorem dL_trails_45 : decode cL_trails 45 = .ok (.istore 11, 2) := by decide +kernel
theorem dL_trails_47 : decode cL_trails 47 = .ok (.iload 11, 2) := by decide +kernel
theorem dL_trails_49 : decode cL_trails 49 = .ok (.iload 6, 2) := by decide +kernel
theorem dL_trails_51 : decode cL_trails 51 = .ok (.if_icmp .ge 264, 3) := by decide +kernel
theorem dL_trails_54 : decode cL_trails 54 = .ok (.aload_n 0, 1) := by decide +kernel
theorem dL_trails_55 : decode cL_trails 55 = .ok (.iload 5, 2) := by decide +kernel
theorem dL_trails_57 : decode cL_trails 57 = .ok (.iload 11, 2) := by decide +kernel
theorem dL_trails_59 : decode cL_trails 59 = .ok (.iconst 5, 1) := by decide +kernel
theorem dL_trails_60 : decode cL_trails 60 = .ok (.invokestatic 97, 3) := by decide +kernel
theorem dL_trails_63 : decode cL_trails 63 = .ok (.istore 12, 2) := by decide +kernel
theorem dL_trails_65 : decode cL_trails 65 = .ok (.aload_n 0, 1) := by decide +kernel
theorem dL_trails_66 : decode cL_trails 66 = .ok (.iload 5, 2) := by decide +kernel
theorem dL_trails_68 : decode cL_trails 68 = .ok (.iload 11, 2) := by decide +kernel
theorem dL_trails_70 : decode cL_trails 70 = .ok (.bipush 6, 2) := by decide +kernel
theorem dL_trails_72 : decode cL_trails 72 = .ok (.invokestatic 97, 3) := by decide +kernel
theorem dL_trails_75 : decode cL_trails 75 = .ok (.istore 13, 2) := by decide +kernel
theorem dL_trails_77 : decode cL_trails 77 = .ok (.aload_n 0, 1) := by decide +kernel
theorem dL_trails_78 : decode cL_trails 78 = .ok (.iload 5, 2) := by decide +kernel
theorem dL_trails_80 : decode cL_trails 80 = .ok (.iload 11, 2) := by decide +kernel
theorem dL_trails_82 : decode cL_trails 82 = .ok (.iconst 3, 1) := by decide +kernel
theorem dL_trails_83 : decode cL_trails 83 = .ok (.invokestatic 97, 3) := by decide +kernel
theorem dL_trails_86 : decode cL_trails 86 = .ok (.aload_n 0, 1) := by decide +kernel
theorem dL_trails_87 : decode cL_trails 87 = .ok (.iconst 2, 1) := by decide +kernel
theorem dL_trails_88 : decode cL_trails 88 = .ok (.invokestatic 88, 3) := by decide +kernel
theorem dL_trails_91 : decode cL_trails 91 = .ok (.isub, 1) := by decide +kernel
theorem dL_trails_92 : decode cL_trails 92 = .ok (.istore 14, 2) := by decide +kernel
theorem dL_trails_94 : decode cL_trails 94 = .ok (.aload_n 0, 1) := by decide +kernel
theorem dL_trails_95 : decode cL_trails 95 = .ok (.iload 5, 2) := by decide +kernel
theorem dL_trails_97 : decode cL_trails 97 = .ok (.iload 11, 2) := by decide +kernel
theorem dL_trails_99 : decode cL_trails 99 = .ok (.iconst 4, 1) := by decide +kernel
theorem dL_trails_100 : decode cL_trails 100 = .ok (.invokestatic 97, 3) := by decide +kernel
theorem dL_trails_103 : decode cL_trails 103 = .ok (.aload_n 0, 1) := by decide +kernel
theorem dL_trails_104 : decode cL_trails 104 = .ok (.iconst 3, 1) := by decide +kernel
theorem dL_trails_105 : decode cL_trails 105 = .ok (.invokestatic 88, 3) := by decide +kernel
theorem dL_trails_108 : decode cL_trails 108 = .ok (.isub, 1) := by decide +kernel
theorem dL_trails_109 : decode cL_trails 109 = .ok (.istore 15, 2) := by decide +kernel
theorem dL_trails_111 : decode cL_trails 111 = .ok (.iload 14, 2) := by decide +kernel
theorem dL_trails_113 : decode cL_trails 113 = .ok (.iload 14, 2) := by decide +kernel
theorem dL_trails_115 : decode cL_trails 115 = .ok (.imul, 1) := by decide +kernel
theorem dL_trails_116 : decode cL_trails 116 = .ok (.iload 15, 2) := by decide +kernel
theorem dL_trails_118 : decode cL_trails 118 = .ok (.iload 15, 2) := by decide +kernel
theorem dL_trails_120 : decode cL_trails 120 = .ok (.imul, 1) := by decide +kernel
theorem dL_trails_121 : decode cL_trails 121 = .ok (.iadd, 1) := by decide +kernel
theorem dL_trails_122 : decode cL_trails 122 = .ok (.istore 16, 2) := by decide +kernel
theorem dL_trails_124 : decode cL_trails 124 = .ok (.iload 12, 2) := by decide +kernel
theorem dL_trails_126 : decode cL_trails 126 = .ok (.iload 7, 2) := by decide +kernel
theorem dL_trails_128 : decode cL_trails 128 = .ok (.if_icmp .ge 8, 3) := by decide +kernel
theorem dL_trails_131 : decode cL_trails 131 = .ok (.iload 12, 2) := by decide +kernel
theorem dL_trails_133 : decode cL_trails 133 = .ok (.goto 5, 3) := by decide +kernel
theorem dL_trails_136 : decode cL_trails 136 = .ok (.iload 7, 2) := by decide +kernel
theorem dL_trails_138 : decode cL_trails 138 = .ok (.istore 7, 2) := by decide +kernel
theorem dL_trails_140 : decode cL_trails 140 = .ok (.iload 12, 2) := by decide +kernel
theorem dL_trails_142 : decode cL_trails 142 = .ok (.iload 8, 2) := by decide +kernel
theorem dL_trails_144 : decode cL_trails 144 = .ok (.if_icmp .le 8, 3) := by decide +kernel
theorem dL_trails_147 : decode cL_trails 147 = .ok (.iload 12, 2) := by decide +kernel
theorem dL_trails_149 : decode cL_trails 149 = .ok (.goto 5, 3) := by decide +kernel
theorem dL_trails_152 : decode cL_trails 152 = .ok (.iload 8, 2) := by decide +kernel
theorem dL_trails_154 : decode cL_trails 154 = .ok (.istore 8, 2) := by decide +kernel
theorem dL_trails_156 : decode cL_trails 156 = .ok (.iload 11, 2) := by decide +kernel
theorem dL_trails_158 : decode cL_trails 158 = .ok (.ifCond .le 113, 3) := by decide +kernel
theorem dL_trails_161 : decode cL_trails 161 = .ok (.aload_n 0, 1) := by decide +kernel
theorem dL_trails_162 : decode cL_trails 162 = .ok (.iload 5, 2) := by decide +kernel
theorem dL_trails_164 : decode cL_trails 164 = .ok (.iload 11, 2) := by decide +kernel
theorem dL_trails_166 : decode cL_trails 166 = .ok (.iconst 0, 1) := by decide +kernel
theorem dL_trails_167 : decode cL_trails 167 = .ok (.invokestatic 97, 3) := by decide +kernel
theorem dL_trails_170 : decode cL_trails 170 = .ok (.aload_n 0, 1) := by decide +kernel
theorem dL_trails_171 : decode cL_trails 171 = .ok (.iload 5, 2) := by decide +kernel
theorem dL_trails_173 : decode cL_trails 173 = .ok (.iload 11, 2) := by decide +kernel
theorem dL_trails_175 : decode cL_trails 175 = .ok (.iconst 1, 1) := by decide +kernel
theorem dL_trails_176 : decode cL_trails 176 = .ok (.isub, 1) := by decide +kernel
theorem dL_trails_177 : decode cL_trails 177 = .ok (.iconst 0, 1) := by decide +kernel
theorem dL_trails_178 : decode cL_trails 178 = .ok (.invokestatic 97, 3) := by decide +kernel
theorem dL_trails_181 : decode cL_trails 181 = .ok (.isub, 1) := by decide +kernel
theorem dL_trails_182 : decode cL_trails 182 = .ok (.istore 17, 2) := by decide +kernel
theorem dL_trails_184 : decode cL_trails 184 = .ok (.iload 13, 2) := by decide +kernel
theorem dL_trails_186 : decode cL_trails 186 = .ok (.aload_n 0, 1) := by decide +kernel
theorem dL_trails_187 : decode cL_trails 187 = .ok (.iload 5, 2) := by decide +kernel
theorem dL_trails_189 : decode cL_trails 189 = .ok (.iload 11, 2) := by decide +kernel
theorem dL_trails_191 : decode cL_trails 191 = .ok (.iconst 1, 1) := by decide +kernel
theorem dL_trails_192 : decode cL_trails 192 = .ok (.isub, 1) := by decide +kernel
theorem dL_trails_193 : decode cL_trails 193 = .ok (.bipush 6, 2) := by decide +kernel
theorem dL_trails_195 : decode cL_trails 195 = .ok (.invokestatic 97, 3) := by decide +kernel
theorem dL_trails_198 : decode cL_trails 198 = .ok (.isub, 1) := by decide +kernel
theorem dL_trails_199 : decode cL_trails 199 = .ok (.istore 18, 2) := by decide +kernel
theorem dL_trails_201 : decode cL_trails 201 = .ok (.iload 18, 2) := by decide +kernel
theorem dL_trails_203 : decode cL_trails 203 = .ok (.ldc 100, 2) := by decide +kernel
theorem dL_trails_205 : decode cL_trails 205 = .ok (.if_icmp .le 11, 3) := by decide +kernel
theorem dL_trails_208 : decode cL_trails 208 = .ok (.iload 18, 2) := by decide +kernel
theorem dL_trails_210 : decode cL_trails 210 = .ok (.ldc 101, 2) := by decide +kernel
theorem dL_trails_212 : decode cL_trails 212 = .ok (.isub, 1) := by decide +kernel
theorem dL_trails_213 : decode cL_trails 213 = .ok (.goto 20, 3) := by decide +kernel
theorem dL_trails_216 : decode cL_trails 216 = .ok (.iload 18, 2) := by decide +kernel
theorem dL_trails_218 : decode cL_trails 218 = .ok (.ldc 102, 2) := by decide +kernel
theorem dL_trails_220 : decode cL_trails 220 = .ok (.if_icmp .gt 11, 3) := by decide +kernel
theorem dL_trails_223 : decode cL_trails 223 = .ok (.iload 18, 2) := by decide +kernel
theorem dL_trails_225 : decode cL_trails 225 = .ok (.ldc 101, 2) := by decide +kernel
theorem dL_trails_227 : decode cL_trails 227 = .ok (.iadd, 1) := by decide +kernel
theorem dL_trails_228 : decode cL_trails 228 = .ok (.goto 5, 3) := by decide +kernel
theorem dL_trails_231 : decode cL_trails 231 = .ok (.iload 18, 2) := by decide +kernel
theorem dL_trails_233 : decode cL_trails 233 = .ok (.istore 18, 2) := by decide +kernel
theorem dL_trails_235 : decode cL_trails 235 = .ok (.iload 10, 2) := by decide +kernel
theorem dL_trails_237 : decode cL_trails 237 = .ok (.iload 18, 2) := by decide +kernel
theorem dL_trails_239 : decode cL_trails 239 = .ok (.iadd, 1) := by decide +kernel
theorem dL_trails_240 : decode cL_trails 240 = .ok (.istore 10, 2) := by decide +kernel
theorem dL_trails_242 : decode cL_trails 242 = .ok (.iload 9, 2) := by decide +kernel
theorem dL_trails_244 : decode cL_trails 244 = .ok (.iload 17, 2) := by decide +kernel
theorem dL_trails_246 : decode cL_trails 246 = .ok (.aload_n 0, 1) := by decide +kernel
theorem dL_trails_247 : decode cL_trails 247 = .ok (.bipush 6, 2) := by decide +kernel
theorem dL_trails_249 : decode cL_trails 249 = .ok (.invokestatic 103, 3) := by decide +kernel
theorem dL_trails_252 : decode cL_trails 252 = .ok (.if_icmp .le 7, 3) := by decide +kernel
theorem dL_trails_255 : decode cL_trails 255 = .ok (.iconst 1, 1) := by decide +kernel
theorem dL_trails_256 : decode cL_trails 256 = .ok (.goto 4, 3) := by decide +kernel
theorem dL_trails_259 : decode cL_trails 259 = .ok (.iconst 0, 1) := by decide +kernel
theorem dL_trails_260 : decode cL_trails 260 = .ok (.iadd, 1) := by decide +kernel
theorem dL_trails_261 : decode cL_trails 261 = .ok (.istore 9, 2) := by decide +kernel
theorem dL_trails_263 : decode cL_trails 263 = .ok (.iload 17, 2) := by decide +kernel
theorem dL_trails_265 : decode cL_trails 265 = .ok (.iconst 1, 1) := by decide +kernel
theorem dL_trails_266 : decode cL_trails 266 = .ok (.if_icmp .ge 5, 3) := by decide +kernel
theorem dL_trails_269 : decode cL_trails 269 = .ok (.iconst 0, 1) := by decide +kernel
theorem dL_trails_270 : decode cL_trails 270 = .ok (.ireturn, 1) := by decide +kernel
theorem dL_trails_271 : decode cL_trails 271 = .ok (.iload 12, 2) := by decide +kernel
theorem dL_trails_273 : decode cL_trails 273 = .ok (.iload 12, 2) := by decide +kernel
theorem dL_trails_275 : decode cL_trails 275 = .ok (.imul, 1) := by decide +kernel
theorem dL_trails_276 : decode cL_trails 276 = .ok (.iload 16, 2) := by decide +kernel
theorem dL_trails_278 : decode cL_trails 278 = .ok (.if_icmp .gt 29, 3) := by decide +kernel
theorem dL_trails_281 : decode cL_trails 281 = .ok (.iload 12, 2) := by decide +kernel
theorem dL_trails_283 : decode cL_trails 283 = .ok (.iconst 1, 1) := by decide +kernel
theorem dL_trails_284 : decode cL_trails 284 = .ok (.iadd, 1) := by decide +kernel
theorem dL_trails_285 : decode cL_trails 285 = .ok (.iload 12, 2) := by decide +kernel
theorem dL_trails_287 : decode cL_trails 287 = .ok (.iconst 1, 1) := by decide +kernel
theorem dL_trails_288 : decode cL_trails 288 = .ok (.iadd, 1) := by decide +kernel
theorem dL_trails_289 : decode cL_trails 289 = .ok (.imul, 1) := by decide +kernel
theorem dL_trails_290 : decode cL_trails 290 = .ok (.iload 16, 2) := by decide +kernel
theorem dL_trails_292 : decode cL_trails 292 = .ok (.if_icmp .le 15, 3) := by decide +kernel
theorem dL_trails_295 : decode cL_trails 295 = .ok (.iload 13, 2) := by decide +kernel
theorem dL_trails_297 : decode cL_trails 297 = .ok (.ifCond .lt 10, 3) := by decide +kernel
theorem dL_trails_300 : decode cL_trails 300 = .ok (.iload 13, 2) := by decide +kernel
theorem dL_trails_302 : decode cL_trails 302 = .ok (.ldc 105, 2) := by decide +kernel
theorem dL_trails_304 : decode cL_trails 304 = .ok (.if_icmp .le 5, 3) := by decide +kernel
theorem dL_trails_307 : decode cL_trails 307 = .ok (.iconst 0, 1) := by decide +kernel
theorem dL_trails_308 : decode cL_trails 308 = .ok (.ireturn, 1) := by decide +kernel
theorem dL_trails_309 : decode cL_trails 309 = .ok (.iinc 11 1, 3) := by decide +kernel
theorem dL_trails_312 : decode cL_trails 312 = .ok (.goto (-265), 3) := by decide +kernel
theorem dL_trails_315 : decode cL_trails 315 = .ok (.iload 6, 2) := by decide +kernel
theorem dL_trails_317 : decode cL_trails 317 = .ok (.ifCond .ne 7, 3) := by decide +kernel
theorem dL_trails_320 : decode cL_trails 320 = .ok (.iconst 0, 1) := by decide +kernel
theorem dL_trails_321 : decode cL_trails 321 = .ok (.goto 23, 3) := by decide +kernel
theorem dL_trails_324 : decode cL_trails 324 = .ok (.aload_n 0, 1) := by decide +kernel
theorem dL_trails_325 : decode cL_trails 325 = .ok (.iload 5, 2) := by decide +kernel
theorem dL_trails_327 : decode cL_trails 327 = .ok (.iload 6, 2) := by decide +kernel
theorem dL_trails_329 : decode cL_trails 329 = .ok (.iconst 1, 1) := by decide +kernel
theorem dL_trails_330 : decode cL_trails 330 = .ok (.isub, 1) := by decide +kernel
theorem dL_trails_331 : decode cL_trails 331 = .ok (.iconst 0, 1) := by decide +kernel
theorem dL_trails_332 : decode cL_trails 332 = .ok (.invokestatic 97, 3) := by decide +kernel
theorem dL_trails_335 : decode cL_trails 335 = .ok (.aload_n 0, 1) := by decide +kernel
theorem dL_trails_336 : decode cL_trails 336 = .ok (.iload 5, 2) := by decide +kernel
theorem dL_trails_338 : decode cL_trails 338 = .ok (.iconst 0, 1) := by decide +kernel
theorem dL_trails_339 : decode cL_trails 339 = .ok (.iconst 0, 1) := by decide +kernel
theorem dL_trails_340 : decode cL_trails 340 = .ok (.invokestatic 97, 3) := by decide +kernel
theorem dL_trails_343 : decode cL_trails 343 = .ok (.isub, 1) := by decide +kernel
theorem dL_trails_344 : decode cL_trails 344 = .ok (.istore 11, 2) := by decide +kernel
theorem dL_trails_346 : decode cL_trails 346 = .ok (.iload 6, 2) := by decide +kernel
theorem dL_trails_348 : decode cL_trails 348 = .ok (.iconst 1, 1) := by decide +kernel
theorem dL_trails_349 : decode cL_trails 349 = .ok (.if_icmp .le 42, 3) := by decide +kernel
theorem dL_trails_352 : decode cL_trails 352 = .ok (.iload 8, 2) := by decide +kernel
theorem dL_trails_354 : decode cL_trails 354 = .ok (.iload 7, 2) := by decide +kernel
theorem dL_trails_356 : decode cL_trails 356 = .ok (.isub, 1) := by decide +kernel
theorem dL_trails_357 : decode cL_trails 357 = .ok (.aload_n 0, 1) := by decide +kernel
theorem dL_trails_358 : decode cL_trails 358 = .ok (.iconst 3, 1) := by decide +kernel
theorem dL_trails_359 : decode cL_trails 359 = .ok (.invokestatic 103, 3) := by decide +kernel
theorem dL_trails_362 : decode cL_trails 362 = .ok (.if_icmp .gt 29, 3) := by decide +kernel
theorem dL_trails_365 : decode cL_trails 365 = .ok (.iload 10, 2) := by decide +kernel
theorem dL_trails_367 : decode cL_trails 367 = .ok (.aload_n 0, 1) := by decide +kernel
theorem dL_trails_368 : decode cL_trails 368 = .ok (.iconst 0, 1) := by decide +kernel
theorem dL_trails_369 : decode cL_trails 369 = .ok (.invokestatic 103, 3) := by decide +kernel
theorem dL_trails_372 : decode cL_trails 372 = .ok (.iload 11, 2) := by decide +kernel
theorem dL_trails_374 : decode cL_trails 374 = .ok (.imul, 1) := by decide +kernel
theorem dL_trails_375 : decode cL_trails 375 = .ok (.isub, 1) := by decide +kernel
theorem dL_trails_376 : decode cL_trails 376 = .ok (.invokestatic 106, 3) := by decide +kernel
theorem dL_trails_379 : decode cL_trails 379 = .ok (.aload_n 0, 1) := by decide +kernel
theorem dL_trails_380 : decode cL_trails 380 = .ok (.iconst 4, 1) := by decide +kernel
theorem dL_trails_381 : decode cL_trails 381 = .ok (.invokestatic 103, 3) := by decide +kernel
theorem dL_trails_384 : decode cL_trails 384 = .ok (.if_icmp .gt 7, 3) := by decide +kernel
theorem dL_trails_387 : decode cL_trails 387 = .ok (.iconst 1, 1) := by decide +kernel
theorem dL_trails_388 : decode cL_trails 388 = .ok (.goto 4, 3) := by decide +kernel
theorem dL_trails_391 : decode cL_trails 391 = .ok (.iconst 0, 1) := by decide +kernel
theorem dL_trails_392 : decode cL_trails 392 = .ok (.istore 12, 2) := by decide +kernel
theorem dL_trails_394 : decode cL_trails 394 = .ok (.iload_n 1, 1) := by decide +kernel
theorem dL_trails_395 : decode cL_trails 395 = .ok (.iload 6, 2) := by decide +kernel
theorem dL_trails_397 : decode cL_trails 397 = .ok (.iadd, 1) := by decide +kernel
theorem dL_trails_398 : decode cL_trails 398 = .ok (.istore_n 1, 1) := by decide +kernel
theorem dL_trails_399 : decode cL_trails 399 = .ok (.iload_n 2, 1) := by decide +kernel
theorem dL_trails_400 : decode cL_trails 400 = .ok (.iload 9, 2) := by decide +kernel
theorem dL_trails_402 : decode cL_trails 402 = .ok (.iadd, 1) := by decide +kernel
theorem dL_trails_403 : decode cL_trails 403 = .ok (.istore_n 2, 1) := by decide +kernel
theorem dL_trails_404 : decode cL_trails 404 = .ok (.iload_n 3, 1) := by decide +kernel
theorem dL_trails_405 : decode cL_trails 405 = .ok (.iload 12, 2) := by decide +kernel
theorem dL_trails_407 : decode cL_trails 407 = .ok (.ifCond .eq 7, 3) := by decide +kernel
theorem dL_trails_410 : decode cL_trails 410 = .ok (.iconst 1, 1) := by decide +kernel
theorem dL_trails_411 : decode cL_trails 411 = .ok (.goto 4, 3) := by decide +kernel
theorem dL_trails_414 : decode cL_trails 414 = .ok (.iconst 0, 1) := by decide +kernel
theorem dL_trails_415 : decode cL_trails 415 = .ok (.iadd, 1) := by decide +kernel
theorem dL_trails_416 : decode cL_trails 416 = .ok (.istore_n 3, 1) := by decide +kernel
theorem dL_trails_417 : decode cL_trails 417 = .ok (.iload 4, 2) := by decide +kernel
theorem dL_trails_419 : decode cL_trails 419 = .ok (.iload 6, 2) := by decide +kernel
theorem dL_trails_421 : decode cL_trails 421 = .ok (.iconst 1, 1) := by decide +kernel
theorem dL_trails_422 : decode cL_trails 422 = .ok (.if_icmp .le 11, 3) := by decide +kernel
theorem dL_trails_425 : decode cL_trails 425 = .ok (.iload 8, 2) := by decide +kernel
theorem dL_trails_427 : decode cL_trails 427 = .ok (.iload 7, 2) := by decide +kernel
theorem dL_trails_429 : decode cL_trails 429 = .ok (.isub, 1) := by decide +kernel
theorem dL_trails_430 : decode cL_trails 430 = .ok (.goto 4, 3) := by decide +kernel
theorem dL_trails_433 : decode cL_trails 433 = .ok (.iconst 0, 1) := by decide +kernel
theorem dL_trails_434 : decode cL_trails 434 = .ok (.iadd, 1) := by decide +kernel
theorem dL_trails_435 : decode cL_trails 435 = .ok (.istore 4, 2) := by decide +kernel
theorem dL_trails_437 : decode cL_trails 437 = .ok (.iload 6, 2) := by decide +kernel
theorem dL_trails_439 : decode cL_trails 439 = .ok (.ifCond .ne 47, 3) := by decide +kernel
theorem dL_trails_442 : decode cL_trails 442 = .ok (.aload_n 0, 1) := by decide +kernel
theorem dL_trails_443 : decode cL_trails 443 = .ok (.iload 5, 2) := by decide +kernel
theorem dL_trails_445 : decode cL_trails 445 = .ok (.iconst 1, 1) := by decide +kernel
theorem dL_trails_446 : decode cL_trails 446 = .ok (.invokestatic 93, 3) := by decide +kernel
theorem dL_trails_449 : decode cL_trails 449 = .ok (.ldc 109, 2) := by decide +kernel
theorem dL_trails_451 : decode cL_trails 451 = .ok (.if_icmp .ne 31, 3) := by decide +kernel
theorem dL_trails_454 : decode cL_trails 454 = .ok (.aload_n 0, 1) := by decide +kernel
theorem dL_trails_455 : decode cL_trails 455 = .ok (.iload 5, 2) := by decide +kernel
theorem dL_trails_457 : decode cL_trails 457 = .ok (.iconst 2, 1) := by decide +kernel
theorem dL_trails_458 : decode cL_trails 458 = .ok (.invokestatic 93, 3) := by decide +kernel
theorem dL_trails_461 : decode cL_trails 461 = .ok (.ldc 109, 2) := by decide +kernel
theorem dL_trails_463 : decode cL_trails 463 = .ok (.if_icmp .ne 19, 3) := by decide +kernel
theorem dL_trails_466 : decode cL_trails 466 = .ok (.aload_n 0, 1) := by decide +kernel
theorem dL_trails_467 : decode cL_trails 467 = .ok (.iload 5, 2) := by decide +kernel
theorem dL_trails_469 : decode cL_trails 469 = .ok (.iconst 5, 1) := by decide +kernel
theorem dL_trails_470 : decode cL_trails 470 = .ok (.invokestatic 93, 3) := by decide +kernel
theorem dL_trails_473 : decode cL_trails 473 = .ok (.ldc 109, 2) := by decide +kernel
theorem dL_trails_475 : decode cL_trails 475 = .ok (.if_icmp .ne 7, 3) := by decide +kernel
theorem dL_trails_478 : decode cL_trails 478 = .ok (.iconst 1, 1) := by decide +kernel
theorem dL_trails_479 : decode cL_trails 479 = .ok (.goto 105, 3) := by decide +kernel
theorem dL_trails_482 : decode cL_trails 482 = .ok (.iconst 0, 1) := by decide +kernel
theorem dL_trails_483 : decode cL_trails 483 = .ok (.goto 101, 3) := by decide +kernel
theorem dL_trails_486 : decode cL_trails 486 = .ok (.aload_n 0, 1) := by decide +kernel
theorem dL_trails_487 : decode cL_trails 487 = .ok (.iload 5, 2) := by decide +kernel
theorem dL_trails_489 : decode cL_trails 489 = .ok (.iconst 1, 1) := by decide +kernel
theorem dL_trails_490 : decode cL_trails 490 = .ok (.invokestatic 93, 3) := by decide +kernel
theorem dL_trails_493 : decode cL_trails 493 = .ok (.iload 7, 2) := by decide +kernel
theorem dL_trails_495 : decode cL_trails 495 = .ok (.if_icmp .lt 88, 3) := by decide +kernel
theorem dL_trails_498 : decode cL_trails 498 = .ok (.aload_n 0, 1) := by decide +kernel
theorem dL_trails_499 : decode cL_trails 499 = .ok (.iload 5, 2) := by decide +kernel
theorem dL_trails_501 : decode cL_trails 501 = .ok (.iconst 1, 1) := by decide +kernel
theorem dL_trails_502 : decode cL_trails 502 = .ok (.invokestatic 93, 3) := by decide +kernel
theorem dL_trails_505 : decode cL_trails 505 = .ok (.iload 8, 2) := by decide +kernel
theorem dL_trails_507 : decode cL_trails 507 = .ok (.if_icmp .gt 76, 3) := by decide +kernel
theorem dL_trails_510 : decode cL_trails 510 = .ok (.aload_n 0, 1) := by decide +kernel
theorem dL_trails_511 : decode cL_trails 511 = .ok (.iload 5, 2) := by decide +kernel
theorem dL_trails_513 : decode cL_trails 513 = .ok (.iconst 2, 1) := by decide +kernel
theorem dL_trails_514 : decode cL_trails 514 = .ok (.invokestatic 93, 3) := by decide +kernel
theorem dL_trails_517 : decode cL_trails 517 = .ok (.iload 8, 2) := by decide +kernel
theorem dL_trails_519 : decode cL_trails 519 = .ok (.iload 7, 2) := by decide +kernel
theorem dL_trails_521 : decode cL_trails 521 = .ok (.isub, 1) := by decide +kernel
theorem dL_trails_522 : decode cL_trails 522 = .ok (.if_icmp .ne 61, 3) := by decide +kernel
theorem dL_trails_525 : decode cL_trails 525 = .ok (.aload_n 0, 1) := by decide +kernel
theorem dL_trails_526 : decode cL_trails 526 = .ok (.iload 5, 2) := by decide +kernel
theorem dL_trails_528 : decode cL_trails 528 = .ok (.iconst 3, 1) := by decide +kernel
theorem dL_trails_529 : decode cL_trails 529 = .ok (.invokestatic 93, 3) := by decide +kernel
theorem dL_trails_532 : decode cL_trails 532 = .ok (.iload 10, 2) := by decide +kernel
theorem dL_trails_534 : decode cL_trails 534 = .ok (.if_icmp .ne 49, 3) := by decide +kernel
theorem dL_trails_537 : decode cL_trails 537 = .ok (.aload_n 0, 1) := by decide +kernel
theorem dL_trails_538 : decode cL_trails 538 = .ok (.iload 5, 2) := by decide +kernel
theorem dL_trails_540 : decode cL_trails 540 = .ok (.iconst 4, 1) := by decide +kernel
theorem dL_trails_541 : decode cL_trails 541 = .ok (.invokestatic 93, 3) := by decide +kernel
theorem dL_trails_544 : decode cL_trails 544 = .ok (.aload_n 0, 1) := by decide +kernel
theorem dL_trails_545 : decode cL_trails 545 = .ok (.iconst 0, 1) := by decide +kernel
theorem dL_trails_546 : decode cL_trails 546 = .ok (.invokestatic 103, 3) := by decide +kernel
theorem dL_trails_549 : decode cL_trails 549 = .ok (.iload 11, 2) := by decide +kernel
theorem dL_trails_551 : decode cL_trails 551 = .ok (.imul, 1) := by decide +kernel
theorem dL_trails_552 : decode cL_trails 552 = .ok (.if_icmp .ne 31, 3) := by decide +kernel
theorem dL_trails_555 : decode cL_trails 555 = .ok (.aload_n 0, 1) := by decide +kernel
theorem dL_trails_556 : decode cL_trails 556 = .ok (.iload 5, 2) := by decide +kernel
theorem dL_trails_558 : decode cL_trails 558 = .ok (.iconst 5, 1) := by decide +kernel
theorem dL_trails_559 : decode cL_trails 559 = .ok (.invokestatic 93, 3) := by decide +kernel
theorem dL_trails_562 : decode cL_trails 562 = .ok (.iload 10, 2) := by decide +kernel
theorem dL_trails_564 : decode cL_trails 564 = .ok (.aload_n 0, 1) := by decide +kernel
theorem dL_trails_565 : decode cL_trails 565 = .ok (.iconst 0, 1) := by decide +kernel
theorem dL_trails_566 : decode cL_trails 566 = .ok (.invokestatic 103, 3) := by decide +kernel
theorem dL_trails_569 : decode cL_trails 569 = .ok (.iload 11, 2) := by decide +kernel
theorem dL_trails_571 : decode cL_trails 571 = .ok (.imul, 1) := by decide +kernel
theorem dL_trails_572 : decode cL_trails 572 = .ok (.isub, 1) := by decide +kernel
theorem dL_trails_573 : decode cL_trails 573 = .ok (.invokestatic 106, 3) := by decide +kernel
theorem dL_trails_576 : decode cL_trails 576 = .ok (.if_icmp .ne 7, 3) := by decide +kernel
theorem dL_trails_579 : decode cL_trails 579 = .ok (.iconst 1, 1) := by decide +kernel
theorem dL_trails_580 : decode cL_trails 580 = .ok (.goto 4, 3) := by decide +kernel
theorem dL_trails_583 : decode cL_trails 583 = .ok (.iconst 0, 1) := by decide +kernel
theorem dL_trails_584 : decode cL_trails 584 = .ok (.istore 13, 2) := by decide +kernel
theorem dL_trails_586 : decode cL_trails 586 = .ok (.iload 13, 2) := by decide +kernel
theorem dL_trails_588 : decode cL_trails 588 = .ok (.ifCond .eq 51, 3) := by decide +kernel
theorem dL_trails_591 : decode cL_trails 591 = .ok (.aload_n 0, 1) := by decide +kernel
theorem dL_trails_592 : decode cL_trails 592 = .ok (.iload 5, 2) := by decide +kernel
theorem dL_trails_594 : decode cL_trails 594 = .ok (.bipush 6, 2) := by decide +kernel
theorem dL_trails_596 : decode cL_trails 596 = .ok (.invokestatic 93, 3) := by decide +kernel
theorem dL_trails_599 : decode cL_trails 599 = .ok (.iload 12, 2) := by decide +kernel
theorem dL_trails_601 : decode cL_trails 601 = .ok (.ifCond .eq 7, 3) := by decide +kernel
theorem dL_trails_604 : decode cL_trails 604 = .ok (.iconst 1, 1) := by decide +kernel
theorem dL_trails_605 : decode cL_trails 605 = .ok (.goto 4, 3) := by decide +kernel
theorem dL_trails_608 : decode cL_trails 608 = .ok (.iconst 0, 1) := by decide +kernel
theorem dL_trails_609 : decode cL_trails 609 = .ok (.if_icmp .ne 30, 3) := by decide +kernel
theorem dL_trails_612 : decode cL_trails 612 = .ok (.aload_n 0, 1) := by decide +kernel
theorem dL_trails_613 : decode cL_trails 613 = .ok (.iload 5, 2) := by decide +kernel
theorem dL_trails_615 : decode cL_trails 615 = .ok (.bipush 7, 2) := by decide +kernel
theorem dL_trails_617 : decode cL_trails 617 = .ok (.invokestatic 93, 3) := by decide +kernel
theorem dL_trails_620 : decode cL_trails 620 = .ok (.iload 9, 2) := by decide +kernel
theorem dL_trails_622 : decode cL_trails 622 = .ok (.if_icmp .ne 17, 3) := by decide +kernel
theorem dL_trails_625 : decode cL_trails 625 = .ok (.aload_n 0, 1) := by decide +kernel
theorem dL_trails_626 : decode cL_trails 626 = .ok (.iload 5, 2) := by decide +kernel
theorem dL_trails_628 : decode cL_trails 628 = .ok (.iload 6, 2) := by decide +kernel
theorem dL_trails_630 : decode cL_trails 630 = .ok (.iconst 0, 1) := by decide +kernel
theorem dL_trails_631 : decode cL_trails 631 = .ok (.invokestatic 97, 3) := by decide +kernel
theorem dL_trails_634 : decode cL_trails 634 = .ok (.ldc 24, 2) := by decide +kernel
theorem dL_trails_636 : decode cL_trails 636 = .ok (.if_icmp .eq 5, 3) := by decide +kernel
theorem dL_trails_639 : decode cL_trails 639 = .ok (.iconst 0, 1) := by decide +kernel
theorem dL_trails_640 : decode cL_trails 640 = .ok (.ireturn, 1) := by decide +kernel
theorem dL_trails_641 : decode cL_trails 641 = .ok (.iinc 5 1, 3) := by decide +kernel
theorem dL_trails_644 : decode cL_trails 644 = .ok (.goto (-632), 3) := by decide +kernel
theorem dL_trails_647 : decode cL_trails 647 = .ok (.aload_n 0, 1) := by decide +kernel
theorem dL_trails_648 : decode cL_trails 648 = .ok (.invokevirtual 110, 3) := by decide +kernel
theorem dL_trails_651 : decode cL_trails 651 = .ok (.istore 5, 2) := by decide +kernel
theorem dL_trails_653 : decode cL_trails 653 = .ok (.aload_n 0, 1) := by decide +kernel
theorem dL_trails_654 : decode cL_trails 654 = .ok (.iconst 4, 1) := by decide +kernel
theorem dL_trails_655 : decode cL_trails 655 = .ok (.invokestatic 88, 3) := by decide +kernel
theorem dL_trails_658 : decode cL_trails 658 = .ok (.iload 4, 2) := by decide +kernel
theorem dL_trails_660 : decode cL_trails 660 = .ok (.if_icmp .ne 79, 3) := by decide +kernel
theorem dL_trails_663 : decode cL_trails 663 = .ok (.aload_n 0, 1) := by decide +kernel
theorem dL_trails_664 : decode cL_trails 664 = .ok (.iconst 5, 1) := by decide +kernel
theorem dL_trails_665 : decode cL_trails 665 = .ok (.invokestatic 88, 3) := by decide +kernel
theorem dL_trails_668 : decode cL_trails 668 = .ok (.iload_n 3, 1) := by decide +kernel
theorem dL_trails_669 : decode cL_trails 669 = .ok (.if_icmp .ne 70, 3) := by decide +kernel
theorem dL_trails_672 : decode cL_trails 672 = .ok (.aload_n 0, 1) := by decide +kernel
theorem dL_trails_673 : decode cL_trails 673 = .ok (.bipush 9, 2) := by decide +kernel
theorem dL_trails_675 : decode cL_trails 675 = .ok (.invokestatic 88, 3) := by decide +kernel
theorem dL_trails_678 : decode cL_trails 678 = .ok (.iload_n 1, 1) := by decide +kernel
theorem dL_trails_679 : decode cL_trails 679 = .ok (.if_icmp .ne 60, 3) := by decide +kernel
theorem dL_trails_682 : decode cL_trails 682 = .ok (.aload_n 0, 1) := by decide +kernel
theorem dL_trails_683 : decode cL_trails 683 = .ok (.bipush 10, 2) := by decide +kernel
theorem dL_trails_685 : decode cL_trails 685 = .ok (.invokestatic 88, 3) := by decide +kernel
theorem dL_trails_688 : decode cL_trails 688 = .ok (.iload_n 2, 1) := by decide +kernel
theorem dL_trails_689 : decode cL_trails 689 = .ok (.if_icmp .ne 50, 3) := by decide +kernel
theorem dL_trails_692 : decode cL_trails 692 = .ok (.aload_n 0, 1) := by decide +kernel
theorem dL_trails_693 : decode cL_trails 693 = .ok (.aload_n 0, 1) := by decide +kernel
theorem dL_trails_694 : decode cL_trails 694 = .ok (.iconst 2, 1) := by decide +kernel
theorem dL_trails_695 : decode cL_trails 695 = .ok (.invokestatic 88, 3) := by decide +kernel
theorem dL_trails_698 : decode cL_trails 698 = .ok (.aload_n 0, 1) := by decide +kernel
theorem dL_trails_699 : decode cL_trails 699 = .ok (.iconst 3, 1) := by decide +kernel
theorem dL_trails_700 : decode cL_trails 700 = .ok (.invokestatic 88, 3) := by decide +kernel
theorem dL_trails_703 : decode cL_trails 703 = .ok (.invokestatic 113, 3) := by decide +kernel
theorem dL_trails_706 : decode cL_trails 706 = .ok (.iload 4, 2) := by decide +kernel
theorem dL_trails_708 : decode cL_trails 708 = .ok (.if_icmp .ne 31, 3) := by decide +kernel
theorem dL_trails_711 : decode cL_trails 711 = .ok (.iload 5, 2) := by decide +kernel
theorem dL_trails_713 : decode cL_trails 713 = .ok (.ldc 109, 2) := by decide +kernel
theorem dL_trails_715 : decode cL_trails 715 = .ok (.if_icmp .ne 7, 3) := by decide +kernel
theorem dL_trails_718 : decode cL_trails 718 = .ok (.iconst 1, 1) := by decide +kernel
theorem dL_trails_719 : decode cL_trails 719 = .ok (.goto 4, 3) := by decide +kernel
theorem dL_trails_722 : decode cL_trails 722 = .ok (.iconst 0, 1) := by decide +kernel
theorem dL_trails_723 : decode cL_trails 723 = .ok (.iload_n 3, 1) := by decide +kernel
theorem dL_trails_724 : decode cL_trails 724 = .ok (.ifCond .ne 7, 3) := by decide +kernel
theorem dL_trails_727 : decode cL_trails 727 = .ok (.iconst 1, 1) := by decide +kernel
theorem dL_trails_728 : decode cL_trails 728 = .ok (.goto 4, 3) := by decide +kernel
theorem dL_trails_731 : decode cL_trails 731 = .ok (.iconst 0, 1) := by decide +kernel
theorem dL_trails_732 : decode cL_trails 732 = .ok (.if_icmp .ne 7, 3) := by decide +kernel
theorem dL_trails_735 : decode cL_trails 735 = .ok (.iconst 1, 1) := by decide +kernel
theorem dL_trails_736 : decode cL_trails 736 = .ok (.goto 4, 3) := by decide +kernel
theorem dL_trails_739 : decode cL_trails 739 = .ok (.iconst 0, 1) := by decide +kernel
theorem dL_trails_740 : decode cL_trails 740 = .ok (.ireturn, 1) := by decide +kernel
