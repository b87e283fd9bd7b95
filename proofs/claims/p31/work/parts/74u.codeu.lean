theorem dL_matches_0 : decode cL_matches 0 = .ok (.iconst 0, 1) := by decide +kernel
theorem dL_matches_1 : decode cL_matches 1 = .ok (.istore_n 1, 1) := by decide +kernel
theorem dL_matches_2 : decode cL_matches 2 = .ok (.iconst 0, 1) := by decide +kernel
theorem dL_matches_3 : decode cL_matches 3 = .ok (.istore_n 2, 1) := by decide +kernel
theorem dL_matches_4 : decode cL_matches 4 = .ok (.iconst 0, 1) := by decide +kernel
theorem dL_matches_5 : decode cL_matches 5 = .ok (.istore_n 3, 1) := by decide +kernel
theorem dL_matches_6 : decode cL_matches 6 = .ok (.iconst 0, 1) := by decide +kernel
theorem dL_matches_7 : decode cL_matches 7 = .ok (.istore 4, 2) := by decide +kernel
theorem dL_matches_9 : decode cL_matches 9 = .ok (.iload 4, 2) := by decide +kernel
theorem dL_matches_11 : decode cL_matches 11 = .ok (.aload_n 0, 1) := by decide +kernel
theorem dL_matches_12 : decode cL_matches 12 = .ok (.iconst 1, 1) := by decide +kernel
theorem dL_matches_13 : decode cL_matches 13 = .ok (.invokestatic 88, 3) := by decide +kernel
theorem dL_matches_16 : decode cL_matches 16 = .ok (.if_icmp .ge 208, 3) := by decide +kernel
theorem dL_matches_19 : decode cL_matches 19 = .ok (.aload_n 0, 1) := by decide +kernel
theorem dL_matches_20 : decode cL_matches 20 = .ok (.iload 4, 2) := by decide +kernel
theorem dL_matches_22 : decode cL_matches 22 = .ok (.iconst 4, 1) := by decide +kernel
theorem dL_matches_23 : decode cL_matches 23 = .ok (.invokestatic 115, 3) := by decide +kernel
theorem dL_matches_26 : decode cL_matches 26 = .ok (.istore 5, 2) := by decide +kernel
theorem dL_matches_28 : decode cL_matches 28 = .ok (.iload_n 1, 1) := by decide +kernel
theorem dL_matches_29 : decode cL_matches 29 = .ok (.iload 5, 2) := by decide +kernel
theorem dL_matches_31 : decode cL_matches 31 = .ok (.ldc 109, 2) := by decide +kernel
theorem dL_matches_33 : decode cL_matches 33 = .ok (.if_icmp .ne 7, 3) := by decide +kernel
theorem dL_matches_36 : decode cL_matches 36 = .ok (.iconst 0, 1) := by decide +kernel
theorem dL_matches_37 : decode cL_matches 37 = .ok (.goto 4, 3) := by decide +kernel
theorem dL_matches_40 : decode cL_matches 40 = .ok (.iconst 1, 1) := by decide +kernel
theorem dL_matches_41 : decode cL_matches 41 = .ok (.iadd, 1) := by decide +kernel
theorem dL_matches_42 : decode cL_matches 42 = .ok (.istore_n 1, 1) := by decide +kernel
theorem dL_matches_43 : decode cL_matches 43 = .ok (.iload_n 2, 1) := by decide +kernel
theorem dL_matches_44 : decode cL_matches 44 = .ok (.iload 5, 2) := by decide +kernel
theorem dL_matches_46 : decode cL_matches 46 = .ok (.ldc 109, 2) := by decide +kernel
theorem dL_matches_48 : decode cL_matches 48 = .ok (.if_icmp .ne 7, 3) := by decide +kernel
theorem dL_matches_51 : decode cL_matches 51 = .ok (.iconst 0, 1) := by decide +kernel
theorem dL_matches_52 : decode cL_matches 52 = .ok (.goto 10, 3) := by decide +kernel
theorem dL_matches_55 : decode cL_matches 55 = .ok (.aload_n 0, 1) := by decide +kernel
theorem dL_matches_56 : decode cL_matches 56 = .ok (.iload 4, 2) := by decide +kernel
theorem dL_matches_58 : decode cL_matches 58 = .ok (.iconst 5, 1) := by decide +kernel
theorem dL_matches_59 : decode cL_matches 59 = .ok (.invokestatic 115, 3) := by decide +kernel
theorem dL_matches_62 : decode cL_matches 62 = .ok (.iadd, 1) := by decide +kernel
theorem dL_matches_63 : decode cL_matches 63 = .ok (.istore_n 2, 1) := by decide +kernel
theorem dL_matches_64 : decode cL_matches 64 = .ok (.iload 5, 2) := by decide +kernel
theorem dL_matches_66 : decode cL_matches 66 = .ok (.ldc 109, 2) := by decide +kernel
theorem dL_matches_68 : decode cL_matches 68 = .ok (.if_icmp .ne 23, 3) := by decide +kernel
theorem dL_matches_71 : decode cL_matches 71 = .ok (.aload_n 0, 1) := by decide +kernel
theorem dL_matches_72 : decode cL_matches 72 = .ok (.iload 4, 2) := by decide +kernel
theorem dL_matches_74 : decode cL_matches 74 = .ok (.iconst 2, 1) := by decide +kernel
theorem dL_matches_75 : decode cL_matches 75 = .ok (.invokestatic 115, 3) := by decide +kernel
theorem dL_matches_78 : decode cL_matches 78 = .ok (.aload_n 0, 1) := by decide +kernel
theorem dL_matches_79 : decode cL_matches 79 = .ok (.bipush 9, 2) := by decide +kernel
theorem dL_matches_81 : decode cL_matches 81 = .ok (.invokestatic 103, 3) := by decide +kernel
theorem dL_matches_84 : decode cL_matches 84 = .ok (.if_icmp .lt 7, 3) := by decide +kernel
theorem dL_matches_87 : decode cL_matches 87 = .ok (.iconst 1, 1) := by decide +kernel
theorem dL_matches_88 : decode cL_matches 88 = .ok (.goto 4, 3) := by decide +kernel
theorem dL_matches_91 : decode cL_matches 91 = .ok (.iconst 0, 1) := by decide +kernel
theorem dL_matches_92 : decode cL_matches 92 = .ok (.istore 6, 2) := by decide +kernel
theorem dL_matches_94 : decode cL_matches 94 = .ok (.iload 5, 2) := by decide +kernel
theorem dL_matches_96 : decode cL_matches 96 = .ok (.ldc 109, 2) := by decide +kernel
theorem dL_matches_98 : decode cL_matches 98 = .ok (.if_icmp .eq 49, 3) := by decide +kernel
theorem dL_matches_101 : decode cL_matches 101 = .ok (.aload_n 0, 1) := by decide +kernel
theorem dL_matches_102 : decode cL_matches 102 = .ok (.iload 5, 2) := by decide +kernel
theorem dL_matches_104 : decode cL_matches 104 = .ok (.bipush 8, 2) := by decide +kernel
theorem dL_matches_106 : decode cL_matches 106 = .ok (.invokestatic 93, 3) := by decide +kernel
theorem dL_matches_109 : decode cL_matches 109 = .ok (.iload 4, 2) := by decide +kernel
theorem dL_matches_111 : decode cL_matches 111 = .ok (.if_icmp .ne 92, 3) := by decide +kernel
theorem dL_matches_114 : decode cL_matches 114 = .ok (.aload_n 0, 1) := by decide +kernel
theorem dL_matches_115 : decode cL_matches 115 = .ok (.iload 4, 2) := by decide +kernel
theorem dL_matches_117 : decode cL_matches 117 = .ok (.iconst 5, 1) := by decide +kernel
theorem dL_matches_118 : decode cL_matches 118 = .ok (.invokestatic 115, 3) := by decide +kernel
theorem dL_matches_121 : decode cL_matches 121 = .ok (.aload_n 0, 1) := by decide +kernel
theorem dL_matches_122 : decode cL_matches 122 = .ok (.iload 5, 2) := by decide +kernel
theorem dL_matches_124 : decode cL_matches 124 = .ok (.iload 4, 2) := by decide +kernel
theorem dL_matches_126 : decode cL_matches 126 = .ok (.invokestatic 117, 3) := by decide +kernel
theorem dL_matches_129 : decode cL_matches 129 = .ok (.if_icmp .ne 74, 3) := by decide +kernel
theorem dL_matches_132 : decode cL_matches 132 = .ok (.aload_n 0, 1) := by decide +kernel
theorem dL_matches_133 : decode cL_matches 133 = .ok (.iload 4, 2) := by decide +kernel
theorem dL_matches_135 : decode cL_matches 135 = .ok (.iconst 5, 1) := by decide +kernel
theorem dL_matches_136 : decode cL_matches 136 = .ok (.invokestatic 115, 3) := by decide +kernel
theorem dL_matches_139 : decode cL_matches 139 = .ok (.aload_n 0, 1) := by decide +kernel
theorem dL_matches_140 : decode cL_matches 140 = .ok (.iconst 5, 1) := by decide +kernel
theorem dL_matches_141 : decode cL_matches 141 = .ok (.invokestatic 103, 3) := by decide +kernel
theorem dL_matches_144 : decode cL_matches 144 = .ok (.if_icmp .gt 59, 3) := by decide +kernel
theorem dL_matches_147 : decode cL_matches 147 = .ok (.iload 5, 2) := by decide +kernel
theorem dL_matches_149 : decode cL_matches 149 = .ok (.ldc 109, 2) := by decide +kernel
theorem dL_matches_151 : decode cL_matches 151 = .ok (.if_icmp .ne 15, 3) := by decide +kernel
theorem dL_matches_154 : decode cL_matches 154 = .ok (.aload_n 0, 1) := by decide +kernel
theorem dL_matches_155 : decode cL_matches 155 = .ok (.iload 4, 2) := by decide +kernel
theorem dL_matches_157 : decode cL_matches 157 = .ok (.iconst 5, 1) := by decide +kernel
theorem dL_matches_158 : decode cL_matches 158 = .ok (.invokestatic 115, 3) := by decide +kernel
theorem dL_matches_161 : decode cL_matches 161 = .ok (.ldc 109, 2) := by decide +kernel
theorem dL_matches_163 : decode cL_matches 163 = .ok (.if_icmp .ne 40, 3) := by decide +kernel
theorem dL_matches_166 : decode cL_matches 166 = .ok (.aload_n 0, 1) := by decide +kernel
theorem dL_matches_167 : decode cL_matches 167 = .ok (.iload 4, 2) := by decide +kernel
theorem dL_matches_169 : decode cL_matches 169 = .ok (.bipush 6, 2) := by decide +kernel
theorem dL_matches_171 : decode cL_matches 171 = .ok (.invokestatic 115, 3) := by decide +kernel
theorem dL_matches_174 : decode cL_matches 174 = .ok (.iconst 1, 1) := by decide +kernel
theorem dL_matches_175 : decode cL_matches 175 = .ok (.if_icmp .ne 7, 3) := by decide +kernel
theorem dL_matches_178 : decode cL_matches 178 = .ok (.iconst 1, 1) := by decide +kernel
theorem dL_matches_179 : decode cL_matches 179 = .ok (.goto 4, 3) := by decide +kernel
theorem dL_matches_182 : decode cL_matches 182 = .ok (.iconst 0, 1) := by decide +kernel
theorem dL_matches_183 : decode cL_matches 183 = .ok (.iload 6, 2) := by decide +kernel
theorem dL_matches_185 : decode cL_matches 185 = .ok (.if_icmp .ne 18, 3) := by decide +kernel
theorem dL_matches_188 : decode cL_matches 188 = .ok (.iload 6, 2) := by decide +kernel
theorem dL_matches_190 : decode cL_matches 190 = .ok (.ifCond .eq 15, 3) := by decide +kernel
theorem dL_matches_193 : decode cL_matches 193 = .ok (.aload_n 0, 1) := by decide +kernel
theorem dL_matches_194 : decode cL_matches 194 = .ok (.iload_n 3, 1) := by decide +kernel
theorem dL_matches_195 : decode cL_matches 195 = .ok (.invokestatic 119, 3) := by decide +kernel
theorem dL_matches_198 : decode cL_matches 198 = .ok (.iload 4, 2) := by decide +kernel
theorem dL_matches_200 : decode cL_matches 200 = .ok (.if_icmp .eq 5, 3) := by decide +kernel
theorem dL_matches_203 : decode cL_matches 203 = .ok (.iconst 0, 1) := by decide +kernel
theorem dL_matches_204 : decode cL_matches 204 = .ok (.ireturn, 1) := by decide +kernel
theorem dL_matches_205 : decode cL_matches 205 = .ok (.iload_n 3, 1) := by decide +kernel
theorem dL_matches_206 : decode cL_matches 206 = .ok (.iload 6, 2) := by decide +kernel
theorem dL_matches_208 : decode cL_matches 208 = .ok (.ifCond .eq 7, 3) := by decide +kernel
theorem dL_matches_211 : decode cL_matches 211 = .ok (.iconst 1, 1) := by decide +kernel
theorem dL_matches_212 : decode cL_matches 212 = .ok (.goto 4, 3) := by decide +kernel
theorem dL_matches_215 : decode cL_matches 215 = .ok (.iconst 0, 1) := by decide +kernel
theorem dL_matches_216 : decode cL_matches 216 = .ok (.iadd, 1) := by decide +kernel
theorem dL_matches_217 : decode cL_matches 217 = .ok (.istore_n 3, 1) := by decide +kernel
theorem dL_matches_218 : decode cL_matches 218 = .ok (.iinc 4 1, 3) := by decide +kernel
theorem dL_matches_221 : decode cL_matches 221 = .ok (.goto (-212), 3) := by decide +kernel
theorem dL_matches_224 : decode cL_matches 224 = .ok (.iconst 0, 1) := by decide +kernel
theorem dL_matches_225 : decode cL_matches 225 = .ok (.istore 4, 2) := by decide +kernel
theorem dL_matches_227 : decode cL_matches 227 = .ok (.iload 4, 2) := by decide +kernel
theorem dL_matches_229 : decode cL_matches 229 = .ok (.aload_n 0, 1) := by decide +kernel
theorem dL_matches_230 : decode cL_matches 230 = .ok (.iconst 0, 1) := by decide +kernel
theorem dL_matches_231 : decode cL_matches 231 = .ok (.invokestatic 88, 3) := by decide +kernel
theorem dL_matches_234 : decode cL_matches 234 = .ok (.if_icmp .ge 191, 3) := by decide +kernel
theorem dL_matches_237 : decode cL_matches 237 = .ok (.aload_n 0, 1) := by decide +kernel
theorem dL_matches_238 : decode cL_matches 238 = .ok (.iload 4, 2) := by decide +kernel
theorem dL_matches_240 : decode cL_matches 240 = .ok (.bipush 8, 2) := by decide +kernel
theorem dL_matches_242 : decode cL_matches 242 = .ok (.invokestatic 93, 3) := by decide +kernel
theorem dL_matches_245 : decode cL_matches 245 = .ok (.istore 5, 2) := by decide +kernel
theorem dL_matches_247 : decode cL_matches 247 = .ok (.iload 5, 2) := by decide +kernel
theorem dL_matches_249 : decode cL_matches 249 = .ok (.ldc 109, 2) := by decide +kernel
theorem dL_matches_251 : decode cL_matches 251 = .ok (.if_icmp .eq 17, 3) := by decide +kernel
theorem dL_matches_254 : decode cL_matches 254 = .ok (.aload_n 0, 1) := by decide +kernel
theorem dL_matches_255 : decode cL_matches 255 = .ok (.iload 5, 2) := by decide +kernel
theorem dL_matches_257 : decode cL_matches 257 = .ok (.iconst 4, 1) := by decide +kernel
theorem dL_matches_258 : decode cL_matches 258 = .ok (.invokestatic 115, 3) := by decide +kernel
theorem dL_matches_261 : decode cL_matches 261 = .ok (.iload 4, 2) := by decide +kernel
theorem dL_matches_263 : decode cL_matches 263 = .ok (.if_icmp .eq 5, 3) := by decide +kernel
theorem dL_matches_266 : decode cL_matches 266 = .ok (.iconst 0, 1) := by decide +kernel
theorem dL_matches_267 : decode cL_matches 267 = .ok (.ireturn, 1) := by decide +kernel
theorem dL_matches_268 : decode cL_matches 268 = .ok (.iconst 0, 1) := by decide +kernel
theorem dL_matches_269 : decode cL_matches 269 = .ok (.istore 6, 2) := by decide +kernel
theorem dL_matches_271 : decode cL_matches 271 = .ok (.iload 6, 2) := by decide +kernel
theorem dL_matches_273 : decode cL_matches 273 = .ok (.aload_n 0, 1) := by decide +kernel
theorem dL_matches_274 : decode cL_matches 274 = .ok (.iconst 1, 1) := by decide +kernel
theorem dL_matches_275 : decode cL_matches 275 = .ok (.invokestatic 88, 3) := by decide +kernel
theorem dL_matches_278 : decode cL_matches 278 = .ok (.if_icmp .ge 141, 3) := by decide +kernel
theorem dL_matches_281 : decode cL_matches 281 = .ok (.aload_n 0, 1) := by decide +kernel
theorem dL_matches_282 : decode cL_matches 282 = .ok (.iload 4, 2) := by decide +kernel
theorem dL_matches_284 : decode cL_matches 284 = .ok (.iload 6, 2) := by decide +kernel
theorem dL_matches_286 : decode cL_matches 286 = .ok (.invokestatic 117, 3) := by decide +kernel
theorem dL_matches_289 : decode cL_matches 289 = .ok (.istore 7, 2) := by decide +kernel
theorem dL_matches_291 : decode cL_matches 291 = .ok (.aload_n 0, 1) := by decide +kernel
theorem dL_matches_292 : decode cL_matches 292 = .ok (.iload 6, 2) := by decide +kernel
theorem dL_matches_294 : decode cL_matches 294 = .ok (.iconst 4, 1) := by decide +kernel
theorem dL_matches_295 : decode cL_matches 295 = .ok (.invokestatic 115, 3) := by decide +kernel
theorem dL_matches_298 : decode cL_matches 298 = .ok (.istore 8, 2) := by decide +kernel
theorem dL_matches_300 : decode cL_matches 300 = .ok (.iload 7, 2) := by decide +kernel
theorem dL_matches_302 : decode cL_matches 302 = .ok (.ldc 109, 2) := by decide +kernel
theorem dL_matches_304 : decode cL_matches 304 = .ok (.if_icmp .eq 17, 3) := by decide +kernel
theorem dL_matches_307 : decode cL_matches 307 = .ok (.iload 7, 2) := by decide +kernel
theorem dL_matches_309 : decode cL_matches 309 = .ok (.aload_n 0, 1) := by decide +kernel
theorem dL_matches_310 : decode cL_matches 310 = .ok (.iconst 5, 1) := by decide +kernel
theorem dL_matches_311 : decode cL_matches 311 = .ok (.invokestatic 103, 3) := by decide +kernel
theorem dL_matches_314 : decode cL_matches 314 = .ok (.if_icmp .gt 7, 3) := by decide +kernel
theorem dL_matches_317 : decode cL_matches 317 = .ok (.iconst 1, 1) := by decide +kernel
theorem dL_matches_318 : decode cL_matches 318 = .ok (.goto 4, 3) := by decide +kernel
theorem dL_matches_321 : decode cL_matches 321 = .ok (.iconst 0, 1) := by decide +kernel
theorem dL_matches_322 : decode cL_matches 322 = .ok (.istore 9, 2) := by decide +kernel
theorem dL_matches_324 : decode cL_matches 324 = .ok (.iload 5, 2) := by decide +kernel
theorem dL_matches_326 : decode cL_matches 326 = .ok (.ldc 109, 2) := by decide +kernel
theorem dL_matches_328 : decode cL_matches 328 = .ok (.if_icmp .eq 16, 3) := by decide +kernel
theorem dL_matches_331 : decode cL_matches 331 = .ok (.aload_n 0, 1) := by decide +kernel
theorem dL_matches_332 : decode cL_matches 332 = .ok (.iload 4, 2) := by decide +kernel
theorem dL_matches_334 : decode cL_matches 334 = .ok (.iload 5, 2) := by decide +kernel
theorem dL_matches_336 : decode cL_matches 336 = .ok (.invokestatic 117, 3) := by decide +kernel
theorem dL_matches_339 : decode cL_matches 339 = .ok (.iload 7, 2) := by decide +kernel
theorem dL_matches_341 : decode cL_matches 341 = .ok (.if_icmp .le 23, 3) := by decide +kernel
theorem dL_matches_344 : decode cL_matches 344 = .ok (.iload 8, 2) := by decide +kernel
theorem dL_matches_346 : decode cL_matches 346 = .ok (.ldc 109, 2) := by decide +kernel
theorem dL_matches_348 : decode cL_matches 348 = .ok (.if_icmp .eq 20, 3) := by decide +kernel
theorem dL_matches_351 : decode cL_matches 351 = .ok (.aload_n 0, 1) := by decide +kernel
theorem dL_matches_352 : decode cL_matches 352 = .ok (.iload 8, 2) := by decide +kernel
theorem dL_matches_354 : decode cL_matches 354 = .ok (.iload 6, 2) := by decide +kernel
theorem dL_matches_356 : decode cL_matches 356 = .ok (.invokestatic 117, 3) := by decide +kernel
theorem dL_matches_359 : decode cL_matches 359 = .ok (.iload 7, 2) := by decide +kernel
theorem dL_matches_361 : decode cL_matches 361 = .ok (.if_icmp .gt 7, 3) := by decide +kernel
theorem dL_matches_364 : decode cL_matches 364 = .ok (.iconst 1, 1) := by decide +kernel
theorem dL_matches_365 : decode cL_matches 365 = .ok (.goto 4, 3) := by decide +kernel
theorem dL_matches_368 : decode cL_matches 368 = .ok (.iconst 0, 1) := by decide +kernel
theorem dL_matches_369 : decode cL_matches 369 = .ok (.istore 10, 2) := by decide +kernel
theorem dL_matches_371 : decode cL_matches 371 = .ok (.iload 7, 2) := by decide +kernel
theorem dL_matches_373 : decode cL_matches 373 = .ok (.ldc 109, 2) := by decide +kernel
theorem dL_matches_375 : decode cL_matches 375 = .ok (.if_icmp .ne 7, 3) := by decide +kernel
theorem dL_matches_378 : decode cL_matches 378 = .ok (.iconst 1, 1) := by decide +kernel
theorem dL_matches_379 : decode cL_matches 379 = .ok (.goto 4, 3) := by decide +kernel
theorem dL_matches_382 : decode cL_matches 382 = .ok (.iconst 0, 1) := by decide +kernel
theorem dL_matches_383 : decode cL_matches 383 = .ok (.aload_n 0, 1) := by decide +kernel
theorem dL_matches_384 : decode cL_matches 384 = .ok (.iload 4, 2) := by decide +kernel
theorem dL_matches_386 : decode cL_matches 386 = .ok (.iconst 0, 1) := by decide +kernel
theorem dL_matches_387 : decode cL_matches 387 = .ok (.invokestatic 93, 3) := by decide +kernel
theorem dL_matches_390 : decode cL_matches 390 = .ok (.ifCond .ne 7, 3) := by decide +kernel
theorem dL_matches_393 : decode cL_matches 393 = .ok (.iconst 1, 1) := by decide +kernel
theorem dL_matches_394 : decode cL_matches 394 = .ok (.goto 4, 3) := by decide +kernel
theorem dL_matches_397 : decode cL_matches 397 = .ok (.iconst 0, 1) := by decide +kernel
theorem dL_matches_398 : decode cL_matches 398 = .ok (.if_icmp .ne 13, 3) := by decide +kernel
theorem dL_matches_401 : decode cL_matches 401 = .ok (.iload 9, 2) := by decide +kernel
theorem dL_matches_403 : decode cL_matches 403 = .ok (.ifCond .eq 10, 3) := by decide +kernel
theorem dL_matches_406 : decode cL_matches 406 = .ok (.iload 10, 2) := by decide +kernel
theorem dL_matches_408 : decode cL_matches 408 = .ok (.ifCond .ne 5, 3) := by decide +kernel
theorem dL_matches_411 : decode cL_matches 411 = .ok (.iconst 0, 1) := by decide +kernel
theorem dL_matches_412 : decode cL_matches 412 = .ok (.ireturn, 1) := by decide +kernel
theorem dL_matches_413 : decode cL_matches 413 = .ok (.iinc 6 1, 3) := by decide +kernel
theorem dL_matches_416 : decode cL_matches 416 = .ok (.goto (-145), 3) := by decide +kernel
theorem dL_matches_419 : decode cL_matches 419 = .ok (.iinc 4 1, 3) := by decide +kernel
theorem dL_matches_422 : decode cL_matches 422 = .ok (.goto (-195), 3) := by decide +kernel
theorem dL_matches_425 : decode cL_matches 425 = .ok (.aload_n 0, 1) := by decide +kernel
theorem dL_matches_426 : decode cL_matches 426 = .ok (.invokevirtual 121, 3) := by decide +kernel
theorem dL_matches_429 : decode cL_matches 429 = .ok (.istore 4, 2) := by decide +kernel
theorem dL_matches_431 : decode cL_matches 431 = .ok (.aload_n 0, 1) := by decide +kernel
theorem dL_matches_432 : decode cL_matches 432 = .ok (.bipush 6, 2) := by decide +kernel
theorem dL_matches_434 : decode cL_matches 434 = .ok (.invokestatic 88, 3) := by decide +kernel
theorem dL_matches_437 : decode cL_matches 437 = .ok (.iload_n 1, 1) := by decide +kernel
theorem dL_matches_438 : decode cL_matches 438 = .ok (.if_icmp .ne 79, 3) := by decide +kernel
theorem dL_matches_441 : decode cL_matches 441 = .ok (.aload_n 0, 1) := by decide +kernel
theorem dL_matches_442 : decode cL_matches 442 = .ok (.bipush 7, 2) := by decide +kernel
theorem dL_matches_444 : decode cL_matches 444 = .ok (.invokestatic 88, 3) := by decide +kernel
theorem dL_matches_447 : decode cL_matches 447 = .ok (.iload_n 2, 1) := by decide +kernel
theorem dL_matches_448 : decode cL_matches 448 = .ok (.if_icmp .ne 69, 3) := by decide +kernel
theorem dL_matches_451 : decode cL_matches 451 = .ok (.aload_n 0, 1) := by decide +kernel
theorem dL_matches_452 : decode cL_matches 452 = .ok (.bipush 8, 2) := by decide +kernel
theorem dL_matches_454 : decode cL_matches 454 = .ok (.invokestatic 88, 3) := by decide +kernel
theorem dL_matches_457 : decode cL_matches 457 = .ok (.iload_n 3, 1) := by decide +kernel
theorem dL_matches_458 : decode cL_matches 458 = .ok (.if_icmp .ne 59, 3) := by decide +kernel
theorem dL_matches_461 : decode cL_matches 461 = .ok (.aload_n 0, 1) := by decide +kernel
theorem dL_matches_462 : decode cL_matches 462 = .ok (.iload_n 3, 1) := by decide +kernel
theorem dL_matches_463 : decode cL_matches 463 = .ok (.invokestatic 119, 3) := by decide +kernel
theorem dL_matches_466 : decode cL_matches 466 = .ok (.ldc 109, 2) := by decide +kernel
theorem dL_matches_468 : decode cL_matches 468 = .ok (.if_icmp .ne 49, 3) := by decide +kernel
theorem dL_matches_471 : decode cL_matches 471 = .ok (.iload_n 1, 1) := by decide +kernel
theorem dL_matches_472 : decode cL_matches 472 = .ok (.aload_n 0, 1) := by decide +kernel
theorem dL_matches_473 : decode cL_matches 473 = .ok (.iconst 0, 1) := by decide +kernel
theorem dL_matches_474 : decode cL_matches 474 = .ok (.invokestatic 88, 3) := by decide +kernel
theorem dL_matches_477 : decode cL_matches 477 = .ok (.if_icmp .gt 40, 3) := by decide +kernel
theorem dL_matches_480 : decode cL_matches 480 = .ok (.iload_n 1, 1) := by decide +kernel
theorem dL_matches_481 : decode cL_matches 481 = .ok (.aload_n 0, 1) := by decide +kernel
theorem dL_matches_482 : decode cL_matches 482 = .ok (.iconst 1, 1) := by decide +kernel
theorem dL_matches_483 : decode cL_matches 483 = .ok (.invokestatic 88, 3) := by decide +kernel
theorem dL_matches_486 : decode cL_matches 486 = .ok (.if_icmp .gt 31, 3) := by decide +kernel
theorem dL_matches_489 : decode cL_matches 489 = .ok (.iload 4, 2) := by decide +kernel
theorem dL_matches_491 : decode cL_matches 491 = .ok (.ldc 109, 2) := by decide +kernel
theorem dL_matches_493 : decode cL_matches 493 = .ok (.if_icmp .ne 7, 3) := by decide +kernel
theorem dL_matches_496 : decode cL_matches 496 = .ok (.iconst 1, 1) := by decide +kernel
theorem dL_matches_497 : decode cL_matches 497 = .ok (.goto 4, 3) := by decide +kernel
theorem dL_matches_500 : decode cL_matches 500 = .ok (.iconst 0, 1) := by decide +kernel
theorem dL_matches_501 : decode cL_matches 501 = .ok (.iload_n 1, 1) := by decide +kernel
theorem dL_matches_502 : decode cL_matches 502 = .ok (.ifCond .ne 7, 3) := by decide +kernel
theorem dL_matches_505 : decode cL_matches 505 = .ok (.iconst 1, 1) := by decide +kernel
theorem dL_matches_506 : decode cL_matches 506 = .ok (.goto 4, 3) := by decide +kernel
theorem dL_matches_509 : decode cL_matches 509 = .ok (.iconst 0, 1) := by decide +kernel
theorem dL_matches_510 : decode cL_matches 510 = .ok (.if_icmp .ne 7, 3) := by decide +kernel
theorem dL_matches_513 : decode cL_matches 513 = .ok (.iconst 1, 1) := by decide +kernel
theorem dL_matches_514 : decode cL_matches 514 = .ok (.goto 4, 3) := by decide +kernel
theorem dL_matches_517 : decode cL_matches 517 = .ok (.iconst 0, 1) := by decide +kernel
theorem dL_matches_518 : decode cL_matches 518 = .ok (.ireturn, 1) := by decide +kernel
theorem dL_searches_0 : decode cL_searches 0 = .ok (.aload_n 0, 1) := by decide +kernel
theorem dL_searches_1 : decode cL_searches 1 = .ok (.iconst 4, 1) := by decide +kernel
theorem dL_searches_2 : decode cL_searches 2 = .ok (.invokestatic 88, 3) := by decide +kernel
theorem dL_searches_5 : decode cL_searches 5 = .ok (.istore_n 2, 1) := by decide +kernel
theorem dL_searches_6 : decode cL_searches 6 = .ok (.aload_n 0, 1) := by decide +kernel
theorem dL_searches_7 : decode cL_searches 7 = .ok (.iload_n 1, 1) := by decide +kernel
theorem dL_searches_8 : decode cL_searches 8 = .ok (.invokestatic 143, 3) := by decide +kernel
theorem dL_searches_11 : decode cL_searches 11 = .ok (.istore_n 3, 1) := by decide +kernel
theorem dL_searches_12 : decode cL_searches 12 = .ok (.aload_n 0, 1) := by decide +kernel
theorem dL_searches_13 : decode cL_searches 13 = .ok (.iconst 2, 1) := by decide +kernel
theorem dL_searches_14 : decode cL_searches 14 = .ok (.invokestatic 88, 3) := by decide +kernel
theorem dL_searches_17 : decode cL_searches 17 = .ok (.istore 4, 2) := by decide +kernel
theorem dL_searches_19 : decode cL_searches 19 = .ok (.aload_n 0, 1) := by decide +kernel
theorem dL_searches_20 : decode cL_searches 20 = .ok (.iconst 3, 1) := by decide +kernel
theorem dL_searches_21 : decode cL_searches 21 = .ok (.invokestatic 88, 3) := by decide +kernel
theorem dL_searches_24 : decode cL_searches 24 = .ok (.istore 5, 2) := by decide +kernel
theorem dL_searches_26 : decode cL_searches 26 = .ok (.aload_n 0, 1) := by decide +kernel
theorem dL_searches_27 : decode cL_searches 27 = .ok (.iconst 4, 1) := by decide +kernel
theorem dL_searches_28 : decode cL_searches 28 = .ok (.invokestatic 88, 3) := by decide +kernel
theorem dL_searches_31 : decode cL_searches 31 = .ok (.istore 6, 2) := by decide +kernel
theorem dL_searches_33 : decode cL_searches 33 = .ok (.iload_n 3, 1) := by decide +kernel
theorem dL_searches_34 : decode cL_searches 34 = .ok (.ifCond .lt 43, 3) := by decide +kernel
theorem dL_searches_37 : decode cL_searches 37 = .ok (.iload 6, 2) := by decide +kernel
theorem dL_searches_39 : decode cL_searches 39 = .ok (.iload_n 2, 1) := by decide +kernel
theorem dL_searches_40 : decode cL_searches 40 = .ok (.iload_n 3, 1) := by decide +kernel
theorem dL_searches_41 : decode cL_searches 41 = .ok (.isub, 1) := by decide +kernel
theorem dL_searches_42 : decode cL_searches 42 = .ok (.if_icmp .gt 35, 3) := by decide +kernel
theorem dL_searches_45 : decode cL_searches 45 = .ok (.iload 4, 2) := by decide +kernel
theorem dL_searches_47 : decode cL_searches 47 = .ok (.sipush (-2000), 3) := by decide +kernel
theorem dL_searches_50 : decode cL_searches 50 = .ok (.if_icmp .lt 27, 3) := by decide +kernel
theorem dL_searches_53 : decode cL_searches 53 = .ok (.iload 4, 2) := by decide +kernel
theorem dL_searches_55 : decode cL_searches 55 = .ok (.sipush 6000, 3) := by decide +kernel
theorem dL_searches_58 : decode cL_searches 58 = .ok (.if_icmp .gt 19, 3) := by decide +kernel
theorem dL_searches_61 : decode cL_searches 61 = .ok (.iload 5, 2) := by decide +kernel
theorem dL_searches_63 : decode cL_searches 63 = .ok (.sipush (-2000), 3) := by decide +kernel
theorem dL_searches_66 : decode cL_searches 66 = .ok (.if_icmp .lt 11, 3) := by decide +kernel
theorem dL_searches_69 : decode cL_searches 69 = .ok (.iload 5, 2) := by decide +kernel
theorem dL_searches_71 : decode cL_searches 71 = .ok (.sipush 6000, 3) := by decide +kernel
theorem dL_searches_74 : decode cL_searches 74 = .ok (.if_icmp .le 5, 3) := by decide +kernel
theorem dL_searches_77 : decode cL_searches 77 = .ok (.iconst 0, 1) := by decide +kernel
theorem dL_searches_78 : decode cL_searches 78 = .ok (.ireturn, 1) := by decide +kernel
theorem dL_searches_79 : decode cL_searches 79 = .ok (.iconst 0, 1) := by decide +kernel
theorem dL_searches_80 : decode cL_searches 80 = .ok (.istore 7, 2) := by decide +kernel
theorem dL_searches_82 : decode cL_searches 82 = .ok (.iload 7, 2) := by decide +kernel
theorem dL_searches_84 : decode cL_searches 84 = .ok (.bipush 9, 2) := by decide +kernel
theorem dL_searches_86 : decode cL_searches 86 = .ok (.if_icmp .ge 49, 3) := by decide +kernel
theorem dL_searches_89 : decode cL_searches 89 = .ok (.aload_n 0, 1) := by decide +kernel
theorem dL_searches_90 : decode cL_searches 90 = .ok (.iload 4, 2) := by decide +kernel
theorem dL_searches_92 : decode cL_searches 92 = .ok (.iload 7, 2) := by decide +kernel
theorem dL_searches_94 : decode cL_searches 94 = .ok (.iconst 3, 1) := by decide +kernel
theorem dL_searches_95 : decode cL_searches 95 = .ok (.irem, 1) := by decide +kernel
theorem dL_searches_96 : decode cL_searches 96 = .ok (.iadd, 1) := by decide +kernel
theorem dL_searches_97 : decode cL_searches 97 = .ok (.iconst 1, 1) := by decide +kernel
theorem dL_searches_98 : decode cL_searches 98 = .ok (.isub, 1) := by decide +kernel
theorem dL_searches_99 : decode cL_searches 99 = .ok (.iload 5, 2) := by decide +kernel
theorem dL_searches_101 : decode cL_searches 101 = .ok (.iload 7, 2) := by decide +kernel
theorem dL_searches_103 : decode cL_searches 103 = .ok (.iconst 3, 1) := by decide +kernel
theorem dL_searches_104 : decode cL_searches 104 = .ok (.idiv, 1) := by decide +kernel
theorem dL_searches_105 : decode cL_searches 105 = .ok (.iadd, 1) := by decide +kernel
theorem dL_searches_106 : decode cL_searches 106 = .ok (.iconst 1, 1) := by decide +kernel
theorem dL_searches_107 : decode cL_searches 107 = .ok (.isub, 1) := by decide +kernel
theorem dL_searches_108 : decode cL_searches 108 = .ok (.invokestatic 113, 3) := by decide +kernel
theorem dL_searches_111 : decode cL_searches 111 = .ok (.istore 8, 2) := by decide +kernel
theorem dL_searches_113 : decode cL_searches 113 = .ok (.iload 8, 2) := by decide +kernel
theorem dL_searches_115 : decode cL_searches 115 = .ok (.ldc 31, 2) := by decide +kernel
theorem dL_searches_117 : decode cL_searches 117 = .ok (.if_icmp .eq 12, 3) := by decide +kernel
theorem dL_searches_120 : decode cL_searches 120 = .ok (.iload 8, 2) := by decide +kernel
theorem dL_searches_122 : decode cL_searches 122 = .ok (.iload 6, 2) := by decide +kernel
theorem dL_searches_124 : decode cL_searches 124 = .ok (.if_icmp .ge 5, 3) := by decide +kernel
theorem dL_searches_127 : decode cL_searches 127 = .ok (.iconst 0, 1) := by decide +kernel
theorem dL_searches_128 : decode cL_searches 128 = .ok (.ireturn, 1) := by decide +kernel
theorem dL_searches_129 : decode cL_searches 129 = .ok (.iinc 7 1, 3) := by decide +kernel
theorem dL_searches_132 : decode cL_searches 132 = .ok (.goto (-50), 3) := by decide +kernel
theorem dL_searches_135 : decode cL_searches 135 = .ok (.aload_n 0, 1) := by decide +kernel
theorem dL_searches_136 : decode cL_searches 136 = .ok (.iconst 1, 1) := by decide +kernel
theorem dL_searches_137 : decode cL_searches 137 = .ok (.invokestatic 143, 3) := by decide +kernel
theorem dL_searches_140 : decode cL_searches 140 = .ok (.ifCond .ne 43, 3) := by decide +kernel
theorem dL_searches_143 : decode cL_searches 143 = .ok (.aload_n 0, 1) := by decide +kernel
theorem dL_searches_144 : decode cL_searches 144 = .ok (.invokestatic 138, 3) := by decide +kernel
theorem dL_searches_147 : decode cL_searches 147 = .ok (.ifCond .lt 36, 3) := by decide +kernel
theorem dL_searches_150 : decode cL_searches 150 = .ok (.iload_n 3, 1) := by decide +kernel
theorem dL_searches_151 : decode cL_searches 151 = .ok (.ifCond .eq 28, 3) := by decide +kernel
theorem dL_searches_154 : decode cL_searches 154 = .ok (.aload_n 0, 1) := by decide +kernel
theorem dL_searches_155 : decode cL_searches 155 = .ok (.invokestatic 138, 3) := by decide +kernel
theorem dL_searches_158 : decode cL_searches 158 = .ok (.ifCond .lt 25, 3) := by decide +kernel
theorem dL_searches_161 : decode cL_searches 161 = .ok (.aload_n 0, 1) := by decide +kernel
theorem dL_searches_162 : decode cL_searches 162 = .ok (.iconst 4, 1) := by decide +kernel
theorem dL_searches_163 : decode cL_searches 163 = .ok (.invokestatic 88, 3) := by decide +kernel
theorem dL_searches_166 : decode cL_searches 166 = .ok (.iload_n 2, 1) := by decide +kernel
theorem dL_searches_167 : decode cL_searches 167 = .ok (.if_icmp .ne 16, 3) := by decide +kernel
theorem dL_searches_170 : decode cL_searches 170 = .ok (.aload_n 0, 1) := by decide +kernel
theorem dL_searches_171 : decode cL_searches 171 = .ok (.iload_n 1, 1) := by decide +kernel
theorem dL_searches_172 : decode cL_searches 172 = .ok (.invokestatic 143, 3) := by decide +kernel
theorem dL_searches_175 : decode cL_searches 175 = .ok (.iload_n 3, 1) := by decide +kernel
theorem dL_searches_176 : decode cL_searches 176 = .ok (.if_icmp .ne 7, 3) := by decide +kernel
theorem dL_searches_179 : decode cL_searches 179 = .ok (.iconst 1, 1) := by decide +kernel
theorem dL_searches_180 : decode cL_searches 180 = .ok (.goto 4, 3) := by decide +kernel
theorem dL_searches_183 : decode cL_searches 183 = .ok (.iconst 0, 1) := by decide +kernel
theorem dL_searches_184 : decode cL_searches 184 = .ok (.ireturn, 1) := by decide +kernel
