theorem dL_thoughts_0 : decode cL_thoughts 0 = .ok (.aload_n 0, 1) := by decide +kernel
theorem dL_thoughts_1 : decode cL_thoughts 1 = .ok (.invokevirtual 124, 3) := by decide +kernel
theorem dL_thoughts_4 : decode cL_thoughts 4 = .ok (.lstore_n 2, 1) := by decide +kernel
theorem dL_thoughts_5 : decode cL_thoughts 5 = .ok (.aload_n 0, 1) := by decide +kernel
theorem dL_thoughts_6 : decode cL_thoughts 6 = .ok (.invokevirtual 128, 3) := by decide +kernel
theorem dL_thoughts_9 : decode cL_thoughts 9 = .ok (.istore 4, 2) := by decide +kernel
theorem dL_thoughts_11 : decode cL_thoughts 11 = .ok (.aload_n 0, 1) := by decide +kernel
theorem dL_thoughts_12 : decode cL_thoughts 12 = .ok (.iconst 0, 1) := by decide +kernel
theorem dL_thoughts_13 : decode cL_thoughts 13 = .ok (.invokestatic 131, 3) := by decide +kernel
theorem dL_thoughts_16 : decode cL_thoughts 16 = .ok (.istore 5, 2) := by decide +kernel
theorem dL_thoughts_18 : decode cL_thoughts 18 = .ok (.aload_n 0, 1) := by decide +kernel
theorem dL_thoughts_19 : decode cL_thoughts 19 = .ok (.iload_n 1, 1) := by decide +kernel
theorem dL_thoughts_20 : decode cL_thoughts 20 = .ok (.iconst 3, 1) := by decide +kernel
theorem dL_thoughts_21 : decode cL_thoughts 21 = .ok (.invokestatic 133, 3) := by decide +kernel
theorem dL_thoughts_24 : decode cL_thoughts 24 = .ok (.invokestatic 131, 3) := by decide +kernel
theorem dL_thoughts_27 : decode cL_thoughts 27 = .ok (.istore 6, 2) := by decide +kernel
theorem dL_thoughts_29 : decode cL_thoughts 29 = .ok (.aload_n 0, 1) := by decide +kernel
theorem dL_thoughts_30 : decode cL_thoughts 30 = .ok (.invokevirtual 124, 3) := by decide +kernel
theorem dL_thoughts_33 : decode cL_thoughts 33 = .ok (.lload_n 2, 1) := by decide +kernel
theorem dL_thoughts_34 : decode cL_thoughts 34 = .ok (.lcmp, 1) := by decide +kernel
theorem dL_thoughts_35 : decode cL_thoughts 35 = .ok (.ifCond .ne 78, 3) := by decide +kernel
theorem dL_thoughts_38 : decode cL_thoughts 38 = .ok (.iload 5, 2) := by decide +kernel
theorem dL_thoughts_40 : decode cL_thoughts 40 = .ok (.sipush 1000, 3) := by decide +kernel
theorem dL_thoughts_43 : decode cL_thoughts 43 = .ok (.aload_n 0, 1) := by decide +kernel
theorem dL_thoughts_44 : decode cL_thoughts 44 = .ok (.iconst 1, 1) := by decide +kernel
theorem dL_thoughts_45 : decode cL_thoughts 45 = .ok (.invokestatic 103, 3) := by decide +kernel
theorem dL_thoughts_48 : decode cL_thoughts 48 = .ok (.bipush 100, 2) := by decide +kernel
theorem dL_thoughts_50 : decode cL_thoughts 50 = .ok (.iadd, 1) := by decide +kernel
theorem dL_thoughts_51 : decode cL_thoughts 51 = .ok (.imul, 1) := by decide +kernel
theorem dL_thoughts_52 : decode cL_thoughts 52 = .ok (.aload_n 0, 1) := by decide +kernel
theorem dL_thoughts_53 : decode cL_thoughts 53 = .ok (.iconst 2, 1) := by decide +kernel
theorem dL_thoughts_54 : decode cL_thoughts 54 = .ok (.invokestatic 103, 3) := by decide +kernel
theorem dL_thoughts_57 : decode cL_thoughts 57 = .ok (.iadd, 1) := by decide +kernel
theorem dL_thoughts_58 : decode cL_thoughts 58 = .ok (.bipush 100, 2) := by decide +kernel
theorem dL_thoughts_60 : decode cL_thoughts 60 = .ok (.iadd, 1) := by decide +kernel
theorem dL_thoughts_61 : decode cL_thoughts 61 = .ok (.if_icmp .ne 52, 3) := by decide +kernel
theorem dL_thoughts_64 : decode cL_thoughts 64 = .ok (.iload 6, 2) := by decide +kernel
theorem dL_thoughts_66 : decode cL_thoughts 66 = .ok (.ifCond .lt 47, 3) := by decide +kernel
theorem dL_thoughts_69 : decode cL_thoughts 69 = .ok (.iload 6, 2) := by decide +kernel
theorem dL_thoughts_71 : decode cL_thoughts 71 = .ok (.sipush 1000, 3) := by decide +kernel
theorem dL_thoughts_74 : decode cL_thoughts 74 = .ok (.idiv, 1) := by decide +kernel
theorem dL_thoughts_75 : decode cL_thoughts 75 = .ok (.bipush 100, 2) := by decide +kernel
theorem dL_thoughts_77 : decode cL_thoughts 77 = .ok (.isub, 1) := by decide +kernel
theorem dL_thoughts_78 : decode cL_thoughts 78 = .ok (.aload_n 0, 1) := by decide +kernel
theorem dL_thoughts_79 : decode cL_thoughts 79 = .ok (.iconst 1, 1) := by decide +kernel
theorem dL_thoughts_80 : decode cL_thoughts 80 = .ok (.invokestatic 103, 3) := by decide +kernel
theorem dL_thoughts_83 : decode cL_thoughts 83 = .ok (.isub, 1) := by decide +kernel
theorem dL_thoughts_84 : decode cL_thoughts 84 = .ok (.invokestatic 106, 3) := by decide +kernel
theorem dL_thoughts_87 : decode cL_thoughts 87 = .ok (.iconst 2, 1) := by decide +kernel
theorem dL_thoughts_88 : decode cL_thoughts 88 = .ok (.if_icmp .gt 25, 3) := by decide +kernel
theorem dL_thoughts_91 : decode cL_thoughts 91 = .ok (.iload 6, 2) := by decide +kernel
theorem dL_thoughts_93 : decode cL_thoughts 93 = .ok (.sipush 1000, 3) := by decide +kernel
theorem dL_thoughts_96 : decode cL_thoughts 96 = .ok (.irem, 1) := by decide +kernel
theorem dL_thoughts_97 : decode cL_thoughts 97 = .ok (.bipush 100, 2) := by decide +kernel
theorem dL_thoughts_99 : decode cL_thoughts 99 = .ok (.isub, 1) := by decide +kernel
theorem dL_thoughts_100 : decode cL_thoughts 100 = .ok (.aload_n 0, 1) := by decide +kernel
theorem dL_thoughts_101 : decode cL_thoughts 101 = .ok (.iconst 2, 1) := by decide +kernel
theorem dL_thoughts_102 : decode cL_thoughts 102 = .ok (.invokestatic 103, 3) := by decide +kernel
theorem dL_thoughts_105 : decode cL_thoughts 105 = .ok (.isub, 1) := by decide +kernel
theorem dL_thoughts_106 : decode cL_thoughts 106 = .ok (.invokestatic 106, 3) := by decide +kernel
theorem dL_thoughts_109 : decode cL_thoughts 109 = .ok (.iconst 2, 1) := by decide +kernel
theorem dL_thoughts_110 : decode cL_thoughts 110 = .ok (.if_icmp .le 5, 3) := by decide +kernel
theorem dL_thoughts_113 : decode cL_thoughts 113 = .ok (.iconst 0, 1) := by decide +kernel
theorem dL_thoughts_114 : decode cL_thoughts 114 = .ok (.ireturn, 1) := by decide +kernel
theorem dL_thoughts_115 : decode cL_thoughts 115 = .ok (.aload_n 0, 1) := by decide +kernel
theorem dL_thoughts_116 : decode cL_thoughts 116 = .ok (.iconst 4, 1) := by decide +kernel
theorem dL_thoughts_117 : decode cL_thoughts 117 = .ok (.invokestatic 88, 3) := by decide +kernel
theorem dL_thoughts_120 : decode cL_thoughts 120 = .ok (.istore 7, 2) := by decide +kernel
theorem dL_thoughts_122 : decode cL_thoughts 122 = .ok (.aload_n 0, 1) := by decide +kernel
theorem dL_thoughts_123 : decode cL_thoughts 123 = .ok (.iconst 1, 1) := by decide +kernel
theorem dL_thoughts_124 : decode cL_thoughts 124 = .ok (.invokestatic 103, 3) := by decide +kernel
theorem dL_thoughts_127 : decode cL_thoughts 127 = .ok (.istore 8, 2) := by decide +kernel
theorem dL_thoughts_129 : decode cL_thoughts 129 = .ok (.aload_n 0, 1) := by decide +kernel
theorem dL_thoughts_130 : decode cL_thoughts 130 = .ok (.iconst 2, 1) := by decide +kernel
theorem dL_thoughts_131 : decode cL_thoughts 131 = .ok (.invokestatic 103, 3) := by decide +kernel
theorem dL_thoughts_134 : decode cL_thoughts 134 = .ok (.istore 9, 2) := by decide +kernel
theorem dL_thoughts_136 : decode cL_thoughts 136 = .ok (.aload_n 0, 1) := by decide +kernel
theorem dL_thoughts_137 : decode cL_thoughts 137 = .ok (.iconst 1, 1) := by decide +kernel
theorem dL_thoughts_138 : decode cL_thoughts 138 = .ok (.iload 6, 2) := by decide +kernel
theorem dL_thoughts_140 : decode cL_thoughts 140 = .ok (.sipush 1000, 3) := by decide +kernel
theorem dL_thoughts_143 : decode cL_thoughts 143 = .ok (.idiv, 1) := by decide +kernel
theorem dL_thoughts_144 : decode cL_thoughts 144 = .ok (.bipush 100, 2) := by decide +kernel
theorem dL_thoughts_146 : decode cL_thoughts 146 = .ok (.isub, 1) := by decide +kernel
theorem dL_thoughts_147 : decode cL_thoughts 147 = .ok (.invokestatic 136, 3) := by decide +kernel
theorem dL_thoughts_150 : decode cL_thoughts 150 = .ok (.iload 8, 2) := by decide +kernel
theorem dL_thoughts_152 : decode cL_thoughts 152 = .ok (.if_icmp .ne 46, 3) := by decide +kernel
theorem dL_thoughts_155 : decode cL_thoughts 155 = .ok (.aload_n 0, 1) := by decide +kernel
theorem dL_thoughts_156 : decode cL_thoughts 156 = .ok (.iconst 2, 1) := by decide +kernel
theorem dL_thoughts_157 : decode cL_thoughts 157 = .ok (.iload 6, 2) := by decide +kernel
theorem dL_thoughts_159 : decode cL_thoughts 159 = .ok (.sipush 1000, 3) := by decide +kernel
theorem dL_thoughts_162 : decode cL_thoughts 162 = .ok (.irem, 1) := by decide +kernel
theorem dL_thoughts_163 : decode cL_thoughts 163 = .ok (.bipush 100, 2) := by decide +kernel
theorem dL_thoughts_165 : decode cL_thoughts 165 = .ok (.isub, 1) := by decide +kernel
theorem dL_thoughts_166 : decode cL_thoughts 166 = .ok (.invokestatic 136, 3) := by decide +kernel
theorem dL_thoughts_169 : decode cL_thoughts 169 = .ok (.iload 9, 2) := by decide +kernel
theorem dL_thoughts_171 : decode cL_thoughts 171 = .ok (.if_icmp .ne 27, 3) := by decide +kernel
theorem dL_thoughts_174 : decode cL_thoughts 174 = .ok (.aload_n 0, 1) := by decide +kernel
theorem dL_thoughts_175 : decode cL_thoughts 175 = .ok (.iconst 4, 1) := by decide +kernel
theorem dL_thoughts_176 : decode cL_thoughts 176 = .ok (.invokestatic 88, 3) := by decide +kernel
theorem dL_thoughts_179 : decode cL_thoughts 179 = .ok (.iload 7, 2) := by decide +kernel
theorem dL_thoughts_181 : decode cL_thoughts 181 = .ok (.if_icmp .gt 17, 3) := by decide +kernel
theorem dL_thoughts_184 : decode cL_thoughts 184 = .ok (.aload_n 0, 1) := by decide +kernel
theorem dL_thoughts_185 : decode cL_thoughts 185 = .ok (.invokestatic 138, 3) := by decide +kernel
theorem dL_thoughts_188 : decode cL_thoughts 188 = .ok (.ifCond .lt 10, 3) := by decide +kernel
theorem dL_thoughts_191 : decode cL_thoughts 191 = .ok (.aload_n 0, 1) := by decide +kernel
theorem dL_thoughts_192 : decode cL_thoughts 192 = .ok (.invokestatic 138, 3) := by decide +kernel
theorem dL_thoughts_195 : decode cL_thoughts 195 = .ok (.ifCond .ge 5, 3) := by decide +kernel
theorem dL_thoughts_198 : decode cL_thoughts 198 = .ok (.iconst 0, 1) := by decide +kernel
theorem dL_thoughts_199 : decode cL_thoughts 199 = .ok (.ireturn, 1) := by decide +kernel
theorem dL_thoughts_200 : decode cL_thoughts 200 = .ok (.iload 4, 2) := by decide +kernel
theorem dL_thoughts_202 : decode cL_thoughts 202 = .ok (.ldc 109, 2) := by decide +kernel
theorem dL_thoughts_204 : decode cL_thoughts 204 = .ok (.if_icmp .ne 26, 3) := by decide +kernel
theorem dL_thoughts_207 : decode cL_thoughts 207 = .ok (.aload_n 0, 1) := by decide +kernel
theorem dL_thoughts_208 : decode cL_thoughts 208 = .ok (.iconst 1, 1) := by decide +kernel
theorem dL_thoughts_209 : decode cL_thoughts 209 = .ok (.invokestatic 88, 3) := by decide +kernel
theorem dL_thoughts_212 : decode cL_thoughts 212 = .ok (.ifCond .eq 12, 3) := by decide +kernel
theorem dL_thoughts_215 : decode cL_thoughts 215 = .ok (.aload_n 0, 1) := by decide +kernel
theorem dL_thoughts_216 : decode cL_thoughts 216 = .ok (.bipush 9, 2) := by decide +kernel
theorem dL_thoughts_218 : decode cL_thoughts 218 = .ok (.invokestatic 88, 3) := by decide +kernel
theorem dL_thoughts_221 : decode cL_thoughts 221 = .ok (.ifCond .ne 7, 3) := by decide +kernel
theorem dL_thoughts_224 : decode cL_thoughts 224 = .ok (.iconst 1, 1) := by decide +kernel
theorem dL_thoughts_225 : decode cL_thoughts 225 = .ok (.goto 4, 3) := by decide +kernel
theorem dL_thoughts_228 : decode cL_thoughts 228 = .ok (.iconst 0, 1) := by decide +kernel
theorem dL_thoughts_229 : decode cL_thoughts 229 = .ok (.ireturn, 1) := by decide +kernel
theorem dL_thoughts_230 : decode cL_thoughts 230 = .ok (.aload_n 0, 1) := by decide +kernel
theorem dL_thoughts_231 : decode cL_thoughts 231 = .ok (.bipush 8, 2) := by decide +kernel
theorem dL_thoughts_233 : decode cL_thoughts 233 = .ok (.invokestatic 103, 3) := by decide +kernel
theorem dL_thoughts_236 : decode cL_thoughts 236 = .ok (.istore 10, 2) := by decide +kernel
theorem dL_thoughts_238 : decode cL_thoughts 238 = .ok (.aload_n 0, 1) := by decide +kernel
theorem dL_thoughts_239 : decode cL_thoughts 239 = .ok (.bipush 8, 2) := by decide +kernel
theorem dL_thoughts_241 : decode cL_thoughts 241 = .ok (.iload 4, 2) := by decide +kernel
theorem dL_thoughts_243 : decode cL_thoughts 243 = .ok (.invokestatic 136, 3) := by decide +kernel
theorem dL_thoughts_246 : decode cL_thoughts 246 = .ok (.iload 10, 2) := by decide +kernel
theorem dL_thoughts_248 : decode cL_thoughts 248 = .ok (.if_icmp .eq 5, 3) := by decide +kernel
theorem dL_thoughts_251 : decode cL_thoughts 251 = .ok (.iconst 0, 1) := by decide +kernel
theorem dL_thoughts_252 : decode cL_thoughts 252 = .ok (.ireturn, 1) := by decide +kernel
theorem dL_thoughts_253 : decode cL_thoughts 253 = .ok (.iconst 0, 1) := by decide +kernel
theorem dL_thoughts_254 : decode cL_thoughts 254 = .ok (.istore 11, 2) := by decide +kernel
theorem dL_thoughts_256 : decode cL_thoughts 256 = .ok (.iconst 0, 1) := by decide +kernel
theorem dL_thoughts_257 : decode cL_thoughts 257 = .ok (.istore 12, 2) := by decide +kernel
theorem dL_thoughts_259 : decode cL_thoughts 259 = .ok (.iload 12, 2) := by decide +kernel
theorem dL_thoughts_261 : decode cL_thoughts 261 = .ok (.aload_n 0, 1) := by decide +kernel
theorem dL_thoughts_262 : decode cL_thoughts 262 = .ok (.iconst 0, 1) := by decide +kernel
theorem dL_thoughts_263 : decode cL_thoughts 263 = .ok (.invokestatic 88, 3) := by decide +kernel
theorem dL_thoughts_266 : decode cL_thoughts 266 = .ok (.if_icmp .ge 76, 3) := by decide +kernel
theorem dL_thoughts_269 : decode cL_thoughts 269 = .ok (.iconst 0, 1) := by decide +kernel
theorem dL_thoughts_270 : decode cL_thoughts 270 = .ok (.istore 13, 2) := by decide +kernel
theorem dL_thoughts_272 : decode cL_thoughts 272 = .ok (.iload 13, 2) := by decide +kernel
theorem dL_thoughts_274 : decode cL_thoughts 274 = .ok (.aload_n 0, 1) := by decide +kernel
theorem dL_thoughts_275 : decode cL_thoughts 275 = .ok (.iconst 1, 1) := by decide +kernel
theorem dL_thoughts_276 : decode cL_thoughts 276 = .ok (.invokestatic 88, 3) := by decide +kernel
theorem dL_thoughts_279 : decode cL_thoughts 279 = .ok (.if_icmp .ge 57, 3) := by decide +kernel
theorem dL_thoughts_282 : decode cL_thoughts 282 = .ok (.aload_n 0, 1) := by decide +kernel
theorem dL_thoughts_283 : decode cL_thoughts 283 = .ok (.iload 12, 2) := by decide +kernel
theorem dL_thoughts_285 : decode cL_thoughts 285 = .ok (.iconst 0, 1) := by decide +kernel
theorem dL_thoughts_286 : decode cL_thoughts 286 = .ok (.invokestatic 93, 3) := by decide +kernel
theorem dL_thoughts_289 : decode cL_thoughts 289 = .ok (.ifCond .le 47, 3) := by decide +kernel
theorem dL_thoughts_292 : decode cL_thoughts 292 = .ok (.iload 11, 2) := by decide +kernel
theorem dL_thoughts_294 : decode cL_thoughts 294 = .ok (.ifCond .ne 29, 3) := by decide +kernel
theorem dL_thoughts_297 : decode cL_thoughts 297 = .ok (.aload_n 0, 1) := by decide +kernel
theorem dL_thoughts_298 : decode cL_thoughts 298 = .ok (.iload 13, 2) := by decide +kernel
theorem dL_thoughts_300 : decode cL_thoughts 300 = .ok (.aload_n 0, 1) := by decide +kernel
theorem dL_thoughts_301 : decode cL_thoughts 301 = .ok (.iload 12, 2) := by decide +kernel
theorem dL_thoughts_303 : decode cL_thoughts 303 = .ok (.iconst 0, 1) := by decide +kernel
theorem dL_thoughts_304 : decode cL_thoughts 304 = .ok (.iconst 0, 1) := by decide +kernel
theorem dL_thoughts_305 : decode cL_thoughts 305 = .ok (.invokestatic 97, 3) := by decide +kernel
theorem dL_thoughts_308 : decode cL_thoughts 308 = .ok (.invokestatic 141, 3) := by decide +kernel
theorem dL_thoughts_311 : decode cL_thoughts 311 = .ok (.aload_n 0, 1) := by decide +kernel
theorem dL_thoughts_312 : decode cL_thoughts 312 = .ok (.iload 12, 2) := by decide +kernel
theorem dL_thoughts_314 : decode cL_thoughts 314 = .ok (.iconst 0, 1) := by decide +kernel
theorem dL_thoughts_315 : decode cL_thoughts 315 = .ok (.bipush 6, 2) := by decide +kernel
theorem dL_thoughts_317 : decode cL_thoughts 317 = .ok (.invokestatic 97, 3) := by decide +kernel
theorem dL_thoughts_320 : decode cL_thoughts 320 = .ok (.if_icmp .ne 7, 3) := by decide +kernel
theorem dL_thoughts_323 : decode cL_thoughts 323 = .ok (.iconst 1, 1) := by decide +kernel
theorem dL_thoughts_324 : decode cL_thoughts 324 = .ok (.goto 4, 3) := by decide +kernel
theorem dL_thoughts_327 : decode cL_thoughts 327 = .ok (.iconst 0, 1) := by decide +kernel
theorem dL_thoughts_328 : decode cL_thoughts 328 = .ok (.istore 11, 2) := by decide +kernel
theorem dL_thoughts_330 : decode cL_thoughts 330 = .ok (.iinc 13 1, 3) := by decide +kernel
theorem dL_thoughts_333 : decode cL_thoughts 333 = .ok (.goto (-61), 3) := by decide +kernel
theorem dL_thoughts_336 : decode cL_thoughts 336 = .ok (.iinc 12 1, 3) := by decide +kernel
theorem dL_thoughts_339 : decode cL_thoughts 339 = .ok (.goto (-80), 3) := by decide +kernel
theorem dL_thoughts_342 : decode cL_thoughts 342 = .ok (.iload 11, 2) := by decide +kernel
theorem dL_thoughts_344 : decode cL_thoughts 344 = .ok (.ifCond .eq 34, 3) := by decide +kernel
theorem dL_thoughts_347 : decode cL_thoughts 347 = .ok (.aload_n 0, 1) := by decide +kernel
theorem dL_thoughts_348 : decode cL_thoughts 348 = .ok (.invokevirtual 128, 3) := by decide +kernel
theorem dL_thoughts_351 : decode cL_thoughts 351 = .ok (.iload 4, 2) := by decide +kernel
theorem dL_thoughts_353 : decode cL_thoughts 353 = .ok (.if_icmp .ne 25, 3) := by decide +kernel
theorem dL_thoughts_356 : decode cL_thoughts 356 = .ok (.aload_n 0, 1) := by decide +kernel
theorem dL_thoughts_357 : decode cL_thoughts 357 = .ok (.invokestatic 138, 3) := by decide +kernel
theorem dL_thoughts_360 : decode cL_thoughts 360 = .ok (.ifCond .lt 18, 3) := by decide +kernel
theorem dL_thoughts_363 : decode cL_thoughts 363 = .ok (.aload_n 0, 1) := by decide +kernel
theorem dL_thoughts_364 : decode cL_thoughts 364 = .ok (.bipush 8, 2) := by decide +kernel
theorem dL_thoughts_366 : decode cL_thoughts 366 = .ok (.invokestatic 103, 3) := by decide +kernel
theorem dL_thoughts_369 : decode cL_thoughts 369 = .ok (.iload 10, 2) := by decide +kernel
theorem dL_thoughts_371 : decode cL_thoughts 371 = .ok (.if_icmp .ne 7, 3) := by decide +kernel
theorem dL_thoughts_374 : decode cL_thoughts 374 = .ok (.iconst 1, 1) := by decide +kernel
theorem dL_thoughts_375 : decode cL_thoughts 375 = .ok (.goto 4, 3) := by decide +kernel
theorem dL_thoughts_378 : decode cL_thoughts 378 = .ok (.iconst 0, 1) := by decide +kernel
theorem dL_thoughts_379 : decode cL_thoughts 379 = .ok (.ireturn, 1) := by decide +kernel
theorem dL_refuses_0 : decode cL_refuses 0 = .ok (.aload_n 0, 1) := by decide +kernel
theorem dL_refuses_1 : decode cL_refuses 1 = .ok (.invokevirtual 124, 3) := by decide +kernel
theorem dL_refuses_4 : decode cL_refuses 4 = .ok (.lstore_n 1, 1) := by decide +kernel
theorem dL_refuses_5 : decode cL_refuses 5 = .ok (.aload_n 0, 1) := by decide +kernel
theorem dL_refuses_6 : decode cL_refuses 6 = .ok (.iconst 0, 1) := by decide +kernel
theorem dL_refuses_7 : decode cL_refuses 7 = .ok (.invokestatic 88, 3) := by decide +kernel
theorem dL_refuses_10 : decode cL_refuses 10 = .ok (.istore_n 3, 1) := by decide +kernel
theorem dL_refuses_11 : decode cL_refuses 11 = .ok (.aload_n 0, 1) := by decide +kernel
theorem dL_refuses_12 : decode cL_refuses 12 = .ok (.iconst 1, 1) := by decide +kernel
theorem dL_refuses_13 : decode cL_refuses 13 = .ok (.invokestatic 88, 3) := by decide +kernel
theorem dL_refuses_16 : decode cL_refuses 16 = .ok (.istore 4, 2) := by decide +kernel
theorem dL_refuses_18 : decode cL_refuses 18 = .ok (.aload_n 0, 1) := by decide +kernel
theorem dL_refuses_19 : decode cL_refuses 19 = .ok (.iload_n 3, 1) := by decide +kernel
theorem dL_refuses_20 : decode cL_refuses 20 = .ok (.invokestatic 145, 3) := by decide +kernel
theorem dL_refuses_23 : decode cL_refuses 23 = .ok (.ldc 24, 2) := by decide +kernel
theorem dL_refuses_25 : decode cL_refuses 25 = .ok (.if_icmp .ne 179, 3) := by decide +kernel
theorem dL_refuses_28 : decode cL_refuses 28 = .ok (.aload_n 0, 1) := by decide +kernel
theorem dL_refuses_29 : decode cL_refuses 29 = .ok (.iload_n 3, 1) := by decide +kernel
theorem dL_refuses_30 : decode cL_refuses 30 = .ok (.iconst (-1), 1) := by decide +kernel
theorem dL_refuses_31 : decode cL_refuses 31 = .ok (.iconst 0, 1) := by decide +kernel
theorem dL_refuses_32 : decode cL_refuses 32 = .ok (.iconst 0, 1) := by decide +kernel
theorem dL_refuses_33 : decode cL_refuses 33 = .ok (.invokestatic 147, 3) := by decide +kernel
theorem dL_refuses_36 : decode cL_refuses 36 = .ok (.ldc 24, 2) := by decide +kernel
theorem dL_refuses_38 : decode cL_refuses 38 = .ok (.if_icmp .ne 166, 3) := by decide +kernel
theorem dL_refuses_41 : decode cL_refuses 41 = .ok (.aload_n 0, 1) := by decide +kernel
theorem dL_refuses_42 : decode cL_refuses 42 = .ok (.iload_n 3, 1) := by decide +kernel
theorem dL_refuses_43 : decode cL_refuses 43 = .ok (.iconst 0, 1) := by decide +kernel
theorem dL_refuses_44 : decode cL_refuses 44 = .ok (.invokestatic 150, 3) := by decide +kernel
theorem dL_refuses_47 : decode cL_refuses 47 = .ok (.ldc 24, 2) := by decide +kernel
theorem dL_refuses_49 : decode cL_refuses 49 = .ok (.if_icmp .ne 155, 3) := by decide +kernel
theorem dL_refuses_52 : decode cL_refuses 52 = .ok (.aload_n 0, 1) := by decide +kernel
theorem dL_refuses_53 : decode cL_refuses 53 = .ok (.bipush 10, 2) := by decide +kernel
theorem dL_refuses_55 : decode cL_refuses 55 = .ok (.iconst 0, 1) := by decide +kernel
theorem dL_refuses_56 : decode cL_refuses 56 = .ok (.invokestatic 136, 3) := by decide +kernel
theorem dL_refuses_59 : decode cL_refuses 59 = .ok (.ldc 31, 2) := by decide +kernel
theorem dL_refuses_61 : decode cL_refuses 61 = .ok (.if_icmp .ne 143, 3) := by decide +kernel
theorem dL_refuses_64 : decode cL_refuses 64 = .ok (.aload_n 0, 1) := by decide +kernel
theorem dL_refuses_65 : decode cL_refuses 65 = .ok (.iconst 0, 1) := by decide +kernel
theorem dL_refuses_66 : decode cL_refuses 66 = .ok (.sipush 5001, 3) := by decide +kernel
theorem dL_refuses_69 : decode cL_refuses 69 = .ok (.invokestatic 136, 3) := by decide +kernel
theorem dL_refuses_72 : decode cL_refuses 72 = .ok (.ldc 31, 2) := by decide +kernel
theorem dL_refuses_74 : decode cL_refuses 74 = .ok (.if_icmp .ne 130, 3) := by decide +kernel
theorem dL_refuses_77 : decode cL_refuses 77 = .ok (.aload_n 0, 1) := by decide +kernel
theorem dL_refuses_78 : decode cL_refuses 78 = .ok (.iconst 1, 1) := by decide +kernel
theorem dL_refuses_79 : decode cL_refuses 79 = .ok (.bipush 101, 2) := by decide +kernel
theorem dL_refuses_81 : decode cL_refuses 81 = .ok (.invokestatic 136, 3) := by decide +kernel
theorem dL_refuses_84 : decode cL_refuses 84 = .ok (.ldc 31, 2) := by decide +kernel
theorem dL_refuses_86 : decode cL_refuses 86 = .ok (.if_icmp .ne 118, 3) := by decide +kernel
theorem dL_refuses_89 : decode cL_refuses 89 = .ok (.aload_n 0, 1) := by decide +kernel
theorem dL_refuses_90 : decode cL_refuses 90 = .ok (.iconst 3, 1) := by decide +kernel
theorem dL_refuses_91 : decode cL_refuses 91 = .ok (.sipush 501, 3) := by decide +kernel
theorem dL_refuses_94 : decode cL_refuses 94 = .ok (.invokestatic 136, 3) := by decide +kernel
theorem dL_refuses_97 : decode cL_refuses 97 = .ok (.ldc 31, 2) := by decide +kernel
theorem dL_refuses_99 : decode cL_refuses 99 = .ok (.if_icmp .ne 105, 3) := by decide +kernel
theorem dL_refuses_102 : decode cL_refuses 102 = .ok (.aload_n 0, 1) := by decide +kernel
theorem dL_refuses_103 : decode cL_refuses 103 = .ok (.iconst 4, 1) := by decide +kernel
theorem dL_refuses_104 : decode cL_refuses 104 = .ok (.ldc 152, 2) := by decide +kernel
theorem dL_refuses_106 : decode cL_refuses 106 = .ok (.invokestatic 136, 3) := by decide +kernel
theorem dL_refuses_109 : decode cL_refuses 109 = .ok (.ldc 31, 2) := by decide +kernel
theorem dL_refuses_111 : decode cL_refuses 111 = .ok (.if_icmp .ne 93, 3) := by decide +kernel
theorem dL_refuses_114 : decode cL_refuses 114 = .ok (.aload_n 0, 1) := by decide +kernel
theorem dL_refuses_115 : decode cL_refuses 115 = .ok (.iconst 5, 1) := by decide +kernel
theorem dL_refuses_116 : decode cL_refuses 116 = .ok (.sipush 5001, 3) := by decide +kernel
theorem dL_refuses_119 : decode cL_refuses 119 = .ok (.invokestatic 136, 3) := by decide +kernel
theorem dL_refuses_122 : decode cL_refuses 122 = .ok (.ldc 31, 2) := by decide +kernel
theorem dL_refuses_124 : decode cL_refuses 124 = .ok (.if_icmp .ne 80, 3) := by decide +kernel
theorem dL_refuses_127 : decode cL_refuses 127 = .ok (.aload_n 0, 1) := by decide +kernel
theorem dL_refuses_128 : decode cL_refuses 128 = .ok (.bipush 6, 2) := by decide +kernel
theorem dL_refuses_130 : decode cL_refuses 130 = .ok (.iconst 0, 1) := by decide +kernel
theorem dL_refuses_131 : decode cL_refuses 131 = .ok (.invokestatic 136, 3) := by decide +kernel
theorem dL_refuses_134 : decode cL_refuses 134 = .ok (.ldc 31, 2) := by decide +kernel
theorem dL_refuses_136 : decode cL_refuses 136 = .ok (.if_icmp .ne 68, 3) := by decide +kernel
theorem dL_refuses_139 : decode cL_refuses 139 = .ok (.aload_n 0, 1) := by decide +kernel
theorem dL_refuses_140 : decode cL_refuses 140 = .ok (.bipush 7, 2) := by decide +kernel
theorem dL_refuses_142 : decode cL_refuses 142 = .ok (.iconst 0, 1) := by decide +kernel
theorem dL_refuses_143 : decode cL_refuses 143 = .ok (.invokestatic 136, 3) := by decide +kernel
theorem dL_refuses_146 : decode cL_refuses 146 = .ok (.ldc 31, 2) := by decide +kernel
theorem dL_refuses_148 : decode cL_refuses 148 = .ok (.if_icmp .ne 56, 3) := by decide +kernel
theorem dL_refuses_151 : decode cL_refuses 151 = .ok (.aload_n 0, 1) := by decide +kernel
theorem dL_refuses_152 : decode cL_refuses 152 = .ok (.bipush 8, 2) := by decide +kernel
theorem dL_refuses_154 : decode cL_refuses 154 = .ok (.ldc 101, 2) := by decide +kernel
theorem dL_refuses_156 : decode cL_refuses 156 = .ok (.invokestatic 136, 3) := by decide +kernel
theorem dL_refuses_159 : decode cL_refuses 159 = .ok (.ldc 31, 2) := by decide +kernel
theorem dL_refuses_161 : decode cL_refuses 161 = .ok (.if_icmp .ne 43, 3) := by decide +kernel
theorem dL_refuses_164 : decode cL_refuses 164 = .ok (.aload_n 0, 1) := by decide +kernel
theorem dL_refuses_165 : decode cL_refuses 165 = .ok (.bipush 9, 2) := by decide +kernel
theorem dL_refuses_167 : decode cL_refuses 167 = .ok (.bipush 10, 2) := by decide +kernel
theorem dL_refuses_169 : decode cL_refuses 169 = .ok (.invokestatic 136, 3) := by decide +kernel
theorem dL_refuses_172 : decode cL_refuses 172 = .ok (.ldc 31, 2) := by decide +kernel
theorem dL_refuses_174 : decode cL_refuses 174 = .ok (.if_icmp .ne 30, 3) := by decide +kernel
theorem dL_refuses_177 : decode cL_refuses 177 = .ok (.aload_n 0, 1) := by decide +kernel
theorem dL_refuses_178 : decode cL_refuses 178 = .ok (.sipush 6001, 3) := by decide +kernel
theorem dL_refuses_181 : decode cL_refuses 181 = .ok (.iconst 0, 1) := by decide +kernel
theorem dL_refuses_182 : decode cL_refuses 182 = .ok (.invokestatic 153, 3) := by decide +kernel
theorem dL_refuses_185 : decode cL_refuses 185 = .ok (.ldc 31, 2) := by decide +kernel
theorem dL_refuses_187 : decode cL_refuses 187 = .ok (.if_icmp .ne 17, 3) := by decide +kernel
theorem dL_refuses_190 : decode cL_refuses 190 = .ok (.aload_n 0, 1) := by decide +kernel
theorem dL_refuses_191 : decode cL_refuses 191 = .ok (.iconst 0, 1) := by decide +kernel
theorem dL_refuses_192 : decode cL_refuses 192 = .ok (.invokestatic 143, 3) := by decide +kernel
theorem dL_refuses_195 : decode cL_refuses 195 = .ok (.ldc 31, 2) := by decide +kernel
theorem dL_refuses_197 : decode cL_refuses 197 = .ok (.if_icmp .ne 7, 3) := by decide +kernel
theorem dL_refuses_200 : decode cL_refuses 200 = .ok (.iconst 1, 1) := by decide +kernel
theorem dL_refuses_201 : decode cL_refuses 201 = .ok (.goto 4, 3) := by decide +kernel
theorem dL_refuses_204 : decode cL_refuses 204 = .ok (.iconst 0, 1) := by decide +kernel
theorem dL_refuses_205 : decode cL_refuses 205 = .ok (.istore 5, 2) := by decide +kernel
theorem dL_refuses_207 : decode cL_refuses 207 = .ok (.iload 5, 2) := by decide +kernel
theorem dL_refuses_209 : decode cL_refuses 209 = .ok (.ifCond .eq 196, 3) := by decide +kernel
theorem dL_refuses_212 : decode cL_refuses 212 = .ok (.aload_n 0, 1) := by decide +kernel
theorem dL_refuses_213 : decode cL_refuses 213 = .ok (.iconst 0, 1) := by decide +kernel
theorem dL_refuses_214 : decode cL_refuses 214 = .ok (.iconst 0, 1) := by decide +kernel
theorem dL_refuses_215 : decode cL_refuses 215 = .ok (.iconst 0, 1) := by decide +kernel
theorem dL_refuses_216 : decode cL_refuses 216 = .ok (.invokestatic 155, 3) := by decide +kernel
theorem dL_refuses_219 : decode cL_refuses 219 = .ok (.ldc 31, 2) := by decide +kernel
theorem dL_refuses_221 : decode cL_refuses 221 = .ok (.if_icmp .ne 184, 3) := by decide +kernel
theorem dL_refuses_224 : decode cL_refuses 224 = .ok (.aload_n 0, 1) := by decide +kernel
theorem dL_refuses_225 : decode cL_refuses 225 = .ok (.ldc 157, 2) := by decide +kernel
theorem dL_refuses_227 : decode cL_refuses 227 = .ok (.iconst 0, 1) := by decide +kernel
theorem dL_refuses_228 : decode cL_refuses 228 = .ok (.iconst 0, 1) := by decide +kernel
theorem dL_refuses_229 : decode cL_refuses 229 = .ok (.invokestatic 155, 3) := by decide +kernel
theorem dL_refuses_232 : decode cL_refuses 232 = .ok (.ldc 31, 2) := by decide +kernel
theorem dL_refuses_234 : decode cL_refuses 234 = .ok (.if_icmp .ne 171, 3) := by decide +kernel
theorem dL_refuses_237 : decode cL_refuses 237 = .ok (.aload_n 0, 1) := by decide +kernel
theorem dL_refuses_238 : decode cL_refuses 238 = .ok (.iconst 1, 1) := by decide +kernel
theorem dL_refuses_239 : decode cL_refuses 239 = .ok (.iconst (-1), 1) := by decide +kernel
theorem dL_refuses_240 : decode cL_refuses 240 = .ok (.iconst 0, 1) := by decide +kernel
theorem dL_refuses_241 : decode cL_refuses 241 = .ok (.invokestatic 155, 3) := by decide +kernel
theorem dL_refuses_244 : decode cL_refuses 244 = .ok (.ldc 31, 2) := by decide +kernel
theorem dL_refuses_246 : decode cL_refuses 246 = .ok (.if_icmp .ne 159, 3) := by decide +kernel
theorem dL_refuses_249 : decode cL_refuses 249 = .ok (.aload_n 0, 1) := by decide +kernel
theorem dL_refuses_250 : decode cL_refuses 250 = .ok (.iload 4, 2) := by decide +kernel
theorem dL_refuses_252 : decode cL_refuses 252 = .ok (.invokestatic 158, 3) := by decide +kernel
theorem dL_refuses_255 : decode cL_refuses 255 = .ok (.ldc 24, 2) := by decide +kernel
theorem dL_refuses_257 : decode cL_refuses 257 = .ok (.if_icmp .ne 148, 3) := by decide +kernel
theorem dL_refuses_260 : decode cL_refuses 260 = .ok (.aload_n 0, 1) := by decide +kernel
theorem dL_refuses_261 : decode cL_refuses 261 = .ok (.iload_n 3, 1) := by decide +kernel
theorem dL_refuses_262 : decode cL_refuses 262 = .ok (.iconst 0, 1) := by decide +kernel
theorem dL_refuses_263 : decode cL_refuses 263 = .ok (.bipush 99, 2) := by decide +kernel
theorem dL_refuses_265 : decode cL_refuses 265 = .ok (.invokestatic 97, 3) := by decide +kernel
theorem dL_refuses_268 : decode cL_refuses 268 = .ok (.ldc 24, 2) := by decide +kernel
theorem dL_refuses_270 : decode cL_refuses 270 = .ok (.if_icmp .ne 135, 3) := by decide +kernel
theorem dL_refuses_273 : decode cL_refuses 273 = .ok (.aload_n 0, 1) := by decide +kernel
theorem dL_refuses_274 : decode cL_refuses 274 = .ok (.iload_n 3, 1) := by decide +kernel
theorem dL_refuses_275 : decode cL_refuses 275 = .ok (.bipush 99, 2) := by decide +kernel
theorem dL_refuses_277 : decode cL_refuses 277 = .ok (.invokestatic 93, 3) := by decide +kernel
theorem dL_refuses_280 : decode cL_refuses 280 = .ok (.ldc 24, 2) := by decide +kernel
theorem dL_refuses_282 : decode cL_refuses 282 = .ok (.if_icmp .ne 123, 3) := by decide +kernel
theorem dL_refuses_285 : decode cL_refuses 285 = .ok (.aload_n 0, 1) := by decide +kernel
theorem dL_refuses_286 : decode cL_refuses 286 = .ok (.iload 4, 2) := by decide +kernel
theorem dL_refuses_288 : decode cL_refuses 288 = .ok (.bipush 99, 2) := by decide +kernel
theorem dL_refuses_290 : decode cL_refuses 290 = .ok (.invokestatic 115, 3) := by decide +kernel
theorem dL_refuses_293 : decode cL_refuses 293 = .ok (.ldc 24, 2) := by decide +kernel
theorem dL_refuses_295 : decode cL_refuses 295 = .ok (.if_icmp .ne 110, 3) := by decide +kernel
theorem dL_refuses_298 : decode cL_refuses 298 = .ok (.aload_n 0, 1) := by decide +kernel
theorem dL_refuses_299 : decode cL_refuses 299 = .ok (.iload 4, 2) := by decide +kernel
theorem dL_refuses_301 : decode cL_refuses 301 = .ok (.iconst (-1), 1) := by decide +kernel
theorem dL_refuses_302 : decode cL_refuses 302 = .ok (.invokestatic 141, 3) := by decide +kernel
theorem dL_refuses_305 : decode cL_refuses 305 = .ok (.ldc 24, 2) := by decide +kernel
theorem dL_refuses_307 : decode cL_refuses 307 = .ok (.if_icmp .ne 98, 3) := by decide +kernel
theorem dL_refuses_310 : decode cL_refuses 310 = .ok (.aload_n 0, 1) := by decide +kernel
theorem dL_refuses_311 : decode cL_refuses 311 = .ok (.iload_n 3, 1) := by decide +kernel
theorem dL_refuses_312 : decode cL_refuses 312 = .ok (.iconst 0, 1) := by decide +kernel
theorem dL_refuses_313 : decode cL_refuses 313 = .ok (.invokestatic 117, 3) := by decide +kernel
theorem dL_refuses_316 : decode cL_refuses 316 = .ok (.ldc 24, 2) := by decide +kernel
theorem dL_refuses_318 : decode cL_refuses 318 = .ok (.if_icmp .ne 87, 3) := by decide +kernel
theorem dL_refuses_321 : decode cL_refuses 321 = .ok (.aload_n 0, 1) := by decide +kernel
theorem dL_refuses_322 : decode cL_refuses 322 = .ok (.iconst 0, 1) := by decide +kernel
theorem dL_refuses_323 : decode cL_refuses 323 = .ok (.iload 4, 2) := by decide +kernel
theorem dL_refuses_325 : decode cL_refuses 325 = .ok (.invokestatic 117, 3) := by decide +kernel
theorem dL_refuses_328 : decode cL_refuses 328 = .ok (.ldc 24, 2) := by decide +kernel
theorem dL_refuses_330 : decode cL_refuses 330 = .ok (.if_icmp .ne 75, 3) := by decide +kernel
theorem dL_refuses_333 : decode cL_refuses 333 = .ok (.aload_n 0, 1) := by decide +kernel
theorem dL_refuses_334 : decode cL_refuses 334 = .ok (.iconst (-1), 1) := by decide +kernel
theorem dL_refuses_335 : decode cL_refuses 335 = .ok (.invokestatic 119, 3) := by decide +kernel
theorem dL_refuses_338 : decode cL_refuses 338 = .ok (.ldc 31, 2) := by decide +kernel
theorem dL_refuses_340 : decode cL_refuses 340 = .ok (.if_icmp .ne 65, 3) := by decide +kernel
theorem dL_refuses_343 : decode cL_refuses 343 = .ok (.aload_n 0, 1) := by decide +kernel
theorem dL_refuses_344 : decode cL_refuses 344 = .ok (.bipush 10, 2) := by decide +kernel
theorem dL_refuses_346 : decode cL_refuses 346 = .ok (.invokestatic 103, 3) := by decide +kernel
theorem dL_refuses_349 : decode cL_refuses 349 = .ok (.ldc 31, 2) := by decide +kernel
theorem dL_refuses_351 : decode cL_refuses 351 = .ok (.if_icmp .ne 54, 3) := by decide +kernel
theorem dL_refuses_354 : decode cL_refuses 354 = .ok (.aload_n 0, 1) := by decide +kernel
theorem dL_refuses_355 : decode cL_refuses 355 = .ok (.bipush 11, 2) := by decide +kernel
theorem dL_refuses_357 : decode cL_refuses 357 = .ok (.invokestatic 88, 3) := by decide +kernel
theorem dL_refuses_360 : decode cL_refuses 360 = .ok (.ldc 31, 2) := by decide +kernel
theorem dL_refuses_362 : decode cL_refuses 362 = .ok (.if_icmp .ne 43, 3) := by decide +kernel
theorem dL_refuses_365 : decode cL_refuses 365 = .ok (.aload_n 0, 1) := by decide +kernel
theorem dL_refuses_366 : decode cL_refuses 366 = .ok (.sipush (-2001), 3) := by decide +kernel
theorem dL_refuses_369 : decode cL_refuses 369 = .ok (.iconst 0, 1) := by decide +kernel
theorem dL_refuses_370 : decode cL_refuses 370 = .ok (.invokestatic 113, 3) := by decide +kernel
theorem dL_refuses_373 : decode cL_refuses 373 = .ok (.ldc 31, 2) := by decide +kernel
theorem dL_refuses_375 : decode cL_refuses 375 = .ok (.if_icmp .ne 30, 3) := by decide +kernel
theorem dL_refuses_378 : decode cL_refuses 378 = .ok (.aload_n 0, 1) := by decide +kernel
theorem dL_refuses_379 : decode cL_refuses 379 = .ok (.bipush 6, 2) := by decide +kernel
theorem dL_refuses_381 : decode cL_refuses 381 = .ok (.invokestatic 131, 3) := by decide +kernel
theorem dL_refuses_384 : decode cL_refuses 384 = .ok (.ldc 31, 2) := by decide +kernel
theorem dL_refuses_386 : decode cL_refuses 386 = .ok (.if_icmp .ne 19, 3) := by decide +kernel
theorem dL_refuses_389 : decode cL_refuses 389 = .ok (.aload_n 0, 1) := by decide +kernel
theorem dL_refuses_390 : decode cL_refuses 390 = .ok (.sipush 128, 3) := by decide +kernel
theorem dL_refuses_393 : decode cL_refuses 393 = .ok (.invokestatic 160, 3) := by decide +kernel
theorem dL_refuses_396 : decode cL_refuses 396 = .ok (.ldc 31, 2) := by decide +kernel
theorem dL_refuses_398 : decode cL_refuses 398 = .ok (.if_icmp .ne 7, 3) := by decide +kernel
theorem dL_refuses_401 : decode cL_refuses 401 = .ok (.iconst 1, 1) := by decide +kernel
theorem dL_refuses_402 : decode cL_refuses 402 = .ok (.goto 4, 3) := by decide +kernel
theorem dL_refuses_405 : decode cL_refuses 405 = .ok (.iconst 0, 1) := by decide +kernel
theorem dL_refuses_406 : decode cL_refuses 406 = .ok (.istore 5, 2) := by decide +kernel
theorem dL_refuses_408 : decode cL_refuses 408 = .ok (.iload 5, 2) := by decide +kernel
theorem dL_refuses_410 : decode cL_refuses 410 = .ok (.ifCond .eq 16, 3) := by decide +kernel
theorem dL_refuses_413 : decode cL_refuses 413 = .ok (.aload_n 0, 1) := by decide +kernel
theorem dL_refuses_414 : decode cL_refuses 414 = .ok (.invokevirtual 124, 3) := by decide +kernel
theorem dL_refuses_417 : decode cL_refuses 417 = .ok (.lload_n 1, 1) := by decide +kernel
theorem dL_refuses_418 : decode cL_refuses 418 = .ok (.lcmp, 1) := by decide +kernel
theorem dL_refuses_419 : decode cL_refuses 419 = .ok (.ifCond .ne 7, 3) := by decide +kernel
theorem dL_refuses_422 : decode cL_refuses 422 = .ok (.iconst 1, 1) := by decide +kernel
theorem dL_refuses_423 : decode cL_refuses 423 = .ok (.goto 4, 3) := by decide +kernel
theorem dL_refuses_426 : decode cL_refuses 426 = .ok (.iconst 0, 1) := by decide +kernel
theorem dL_refuses_427 : decode cL_refuses 427 = .ok (.ireturn, 1) := by decide +kernel
