theorem dL_names_0 : decode cL_names 0 = .ok (.iconst 1, 1) := by decide +kernel
theorem dL_names_1 : decode cL_names 1 = .ok (.iload 6, 2) := by decide +kernel
theorem dL_names_3 : decode cL_names 3 = .ok (.bipush 7, 2) := by decide +kernel
theorem dL_names_5 : decode cL_names 5 = .ok (.idiv, 1) := by decide +kernel
theorem dL_names_6 : decode cL_names 6 = .ok (.iload 6, 2) := by decide +kernel
theorem dL_names_8 : decode cL_names 8 = .ok (.iconst 4, 1) := by decide +kernel
theorem dL_names_9 : decode cL_names 9 = .ok (.irem, 1) := by decide +kernel
theorem dL_names_10 : decode cL_names 10 = .ok (.ifCond .ne 8, 3) := by decide +kernel
theorem dL_names_13 : decode cL_names 13 = .ok (.bipush 14, 2) := by decide +kernel
theorem dL_names_15 : decode cL_names 15 = .ok (.goto 5, 3) := by decide +kernel
theorem dL_names_18 : decode cL_names 18 = .ok (.bipush 7, 2) := by decide +kernel
theorem dL_names_20 : decode cL_names 20 = .ok (.irem, 1) := by decide +kernel
theorem dL_names_21 : decode cL_names 21 = .ok (.iadd, 1) := by decide +kernel
theorem dL_names_22 : decode cL_names 22 = .ok (.istore 7, 2) := by decide +kernel
theorem dL_names_24 : decode cL_names 24 = .ok (.iload 6, 2) := by decide +kernel
theorem dL_names_26 : decode cL_names 26 = .ok (.bipush 9, 2) := by decide +kernel
theorem dL_names_28 : decode cL_names 28 = .ok (.irem, 1) := by decide +kernel
theorem dL_names_29 : decode cL_names 29 = .ok (.iconst 2, 1) := by decide +kernel
theorem dL_names_30 : decode cL_names 30 = .ok (.if_icmp .ge 13, 3) := by decide +kernel
theorem dL_names_33 : decode cL_names 33 = .ok (.iload 6, 2) := by decide +kernel
theorem dL_names_35 : decode cL_names 35 = .ok (.bipush 9, 2) := by decide +kernel
theorem dL_names_37 : decode cL_names 37 = .ok (.irem, 1) := by decide +kernel
theorem dL_names_38 : decode cL_names 38 = .ok (.iconst 1, 1) := by decide +kernel
theorem dL_names_39 : decode cL_names 39 = .ok (.iadd, 1) := by decide +kernel
theorem dL_names_40 : decode cL_names 40 = .ok (.goto 4, 3) := by decide +kernel
theorem dL_names_43 : decode cL_names 43 = .ok (.iconst 0, 1) := by decide +kernel
theorem dL_names_44 : decode cL_names 44 = .ok (.istore 8, 2) := by decide +kernel
theorem dL_names_46 : decode cL_names 46 = .ok (.iload 8, 2) := by decide +kernel
theorem dL_names_48 : decode cL_names 48 = .ok (.ifCond .le 7, 3) := by decide +kernel
theorem dL_names_51 : decode cL_names 51 = .ok (.iconst 5, 1) := by decide +kernel
theorem dL_names_52 : decode cL_names 52 = .ok (.goto 5, 3) := by decide +kernel
theorem dL_names_55 : decode cL_names 55 = .ok (.iload 7, 2) := by decide +kernel
theorem dL_names_57 : decode cL_names 57 = .ok (.istore 7, 2) := by decide +kernel
theorem dL_names_59 : decode cL_names 59 = .ok (.iconst 0, 1) := by decide +kernel
theorem dL_names_60 : decode cL_names 60 = .ok (.istore 9, 2) := by decide +kernel
theorem dL_names_62 : decode cL_names 62 = .ok (.aload_n 0, 1) := by decide +kernel
theorem dL_names_63 : decode cL_names 63 = .ok (.invokevirtual 49, 3) := by decide +kernel
theorem dL_names_66 : decode cL_names 66 = .ok (.ifCond .lt 7, 3) := by decide +kernel
theorem dL_names_69 : decode cL_names 69 = .ok (.iconst 1, 1) := by decide +kernel
theorem dL_names_70 : decode cL_names 70 = .ok (.goto 4, 3) := by decide +kernel
theorem dL_names_73 : decode cL_names 73 = .ok (.iconst 0, 1) := by decide +kernel
theorem dL_names_74 : decode cL_names 74 = .ok (.istore 10, 2) := by decide +kernel
theorem dL_names_76 : decode cL_names 76 = .ok (.iconst 0, 1) := by decide +kernel
theorem dL_names_77 : decode cL_names 77 = .ok (.istore 11, 2) := by decide +kernel
theorem dL_names_79 : decode cL_names 79 = .ok (.iload 11, 2) := by decide +kernel
theorem dL_names_81 : decode cL_names 81 = .ok (.iload 7, 2) := by decide +kernel
theorem dL_names_83 : decode cL_names 83 = .ok (.if_icmp .ge 91, 3) := by decide +kernel
theorem dL_names_86 : decode cL_names 86 = .ok (.iload 10, 2) := by decide +kernel
theorem dL_names_88 : decode cL_names 88 = .ok (.ifCond .eq 86, 3) := by decide +kernel
theorem dL_names_91 : decode cL_names 91 = .ok (.iload 8, 2) := by decide +kernel
theorem dL_names_93 : decode cL_names 93 = .ok (.ifCond .ne 15, 3) := by decide +kernel
theorem dL_names_96 : decode cL_names 96 = .ok (.iload 6, 2) := by decide +kernel
theorem dL_names_98 : decode cL_names 98 = .ok (.iload 11, 2) := by decide +kernel
theorem dL_names_100 : decode cL_names 100 = .ok (.iload 7, 2) := by decide +kernel
theorem dL_names_102 : decode cL_names 102 = .ok (.invokestatic 53, 3) := by decide +kernel
theorem dL_names_105 : decode cL_names 105 = .ok (.goto 31, 3) := by decide +kernel
theorem dL_names_108 : decode cL_names 108 = .ok (.iload 8, 2) := by decide +kernel
theorem dL_names_110 : decode cL_names 110 = .ok (.iconst 1, 1) := by decide +kernel
theorem dL_names_111 : decode cL_names 111 = .ok (.if_icmp .ne 9, 3) := by decide +kernel
theorem dL_names_114 : decode cL_names 114 = .ok (.ldc2_w 23, 3) := by decide +kernel
theorem dL_names_117 : decode cL_names 117 = .ok (.goto 6, 3) := by decide +kernel
theorem dL_names_120 : decode cL_names 120 = .ok (.ldc2_w 29, 3) := by decide +kernel
theorem dL_names_123 : decode cL_names 123 = .ok (.bipush 8, 2) := by decide +kernel
theorem dL_names_125 : decode cL_names 125 = .ok (.iconst 4, 1) := by decide +kernel
theorem dL_names_126 : decode cL_names 126 = .ok (.iload 11, 2) := by decide +kernel
theorem dL_names_128 : decode cL_names 128 = .ok (.isub, 1) := by decide +kernel
theorem dL_names_129 : decode cL_names 129 = .ok (.imul, 1) := by decide +kernel
theorem dL_names_130 : decode cL_names 130 = .ok (.lshr, 1) := by decide +kernel
theorem dL_names_131 : decode cL_names 131 = .ok (.ldc2_w 21, 3) := by decide +kernel
theorem dL_names_134 : decode cL_names 134 = .ok (.land, 1) := by decide +kernel
theorem dL_names_135 : decode cL_names 135 = .ok (.l2i, 1) := by decide +kernel
theorem dL_names_136 : decode cL_names 136 = .ok (.istore 12, 2) := by decide +kernel
theorem dL_names_138 : decode cL_names 138 = .ok (.iload 9, 2) := by decide +kernel
theorem dL_names_140 : decode cL_names 140 = .ok (.iload 12, 2) := by decide +kernel
theorem dL_names_142 : decode cL_names 142 = .ok (.invokestatic 17, 3) := by decide +kernel
theorem dL_names_145 : decode cL_names 145 = .ok (.iadd, 1) := by decide +kernel
theorem dL_names_146 : decode cL_names 146 = .ok (.istore 9, 2) := by decide +kernel
theorem dL_names_148 : decode cL_names 148 = .ok (.aload_n 0, 1) := by decide +kernel
theorem dL_names_149 : decode cL_names 149 = .ok (.iload 12, 2) := by decide +kernel
theorem dL_names_151 : decode cL_names 151 = .ok (.invokevirtual 44, 3) := by decide +kernel
theorem dL_names_154 : decode cL_names 154 = .ok (.iload 11, 2) := by decide +kernel
theorem dL_names_156 : decode cL_names 156 = .ok (.iconst 1, 1) := by decide +kernel
theorem dL_names_157 : decode cL_names 157 = .ok (.iadd, 1) := by decide +kernel
theorem dL_names_158 : decode cL_names 158 = .ok (.if_icmp .ne 7, 3) := by decide +kernel
theorem dL_names_161 : decode cL_names 161 = .ok (.iconst 1, 1) := by decide +kernel
theorem dL_names_162 : decode cL_names 162 = .ok (.goto 4, 3) := by decide +kernel
theorem dL_names_165 : decode cL_names 165 = .ok (.iconst 0, 1) := by decide +kernel
theorem dL_names_166 : decode cL_names 166 = .ok (.istore 10, 2) := by decide +kernel
theorem dL_names_168 : decode cL_names 168 = .ok (.iinc 11 1, 3) := by decide +kernel
theorem dL_names_171 : decode cL_names 171 = .ok (.goto (-92), 3) := by decide +kernel
theorem dL_names_174 : decode cL_names 174 = .ok (.aload_n 1, 1) := by decide +kernel
theorem dL_names_175 : decode cL_names 175 = .ok (.iload 9, 2) := by decide +kernel
theorem dL_names_177 : decode cL_names 177 = .ok (.invokestatic 40, 3) := by decide +kernel
theorem dL_names_180 : decode cL_names 180 = .ok (.istore 11, 2) := by decide +kernel
theorem dL_names_182 : decode cL_names 182 = .ok (.iload 11, 2) := by decide +kernel
theorem dL_names_184 : decode cL_names 184 = .ok (.sipush 150, 3) := by decide +kernel
theorem dL_names_187 : decode cL_names 187 = .ok (.if_icmp .le 7, 3) := by decide +kernel
theorem dL_names_190 : decode cL_names 190 = .ok (.iconst 2, 1) := by decide +kernel
theorem dL_names_191 : decode cL_names 191 = .ok (.goto 16, 3) := by decide +kernel
theorem dL_names_194 : decode cL_names 194 = .ok (.aload_n 1, 1) := by decide +kernel
theorem dL_names_195 : decode cL_names 195 = .ok (.iconst 0, 1) := by decide +kernel
theorem dL_names_196 : decode cL_names 196 = .ok (.iaload, 1) := by decide +kernel
theorem dL_names_197 : decode cL_names 197 = .ok (.bipush 20, 2) := by decide +kernel
theorem dL_names_199 : decode cL_names 199 = .ok (.if_icmp .ne 7, 3) := by decide +kernel
theorem dL_names_202 : decode cL_names 202 = .ok (.iconst 3, 1) := by decide +kernel
theorem dL_names_203 : decode cL_names 203 = .ok (.goto 4, 3) := by decide +kernel
theorem dL_names_206 : decode cL_names 206 = .ok (.iconst 0, 1) := by decide +kernel
theorem dL_names_207 : decode cL_names 207 = .ok (.istore 12, 2) := by decide +kernel
theorem dL_names_209 : decode cL_names 209 = .ok (.iload 10, 2) := by decide +kernel
theorem dL_names_211 : decode cL_names 211 = .ok (.ifCond .eq 77, 3) := by decide +kernel
theorem dL_names_214 : decode cL_names 214 = .ok (.aload_n 0, 1) := by decide +kernel
theorem dL_names_215 : decode cL_names 215 = .ok (.iconst 0, 1) := by decide +kernel
theorem dL_names_216 : decode cL_names 216 = .ok (.invokevirtual 57, 3) := by decide +kernel
theorem dL_names_219 : decode cL_names 219 = .ok (.iload 12, 2) := by decide +kernel
theorem dL_names_221 : decode cL_names 221 = .ok (.ifCond .ne 8, 3) := by decide +kernel
theorem dL_names_224 : decode cL_names 224 = .ok (.ldc 60, 2) := by decide +kernel
theorem dL_names_226 : decode cL_names 226 = .ok (.goto 4, 3) := by decide +kernel
theorem dL_names_229 : decode cL_names 229 = .ok (.iconst 0, 1) := by decide +kernel
theorem dL_names_230 : decode cL_names 230 = .ok (.if_icmp .ne 58, 3) := by decide +kernel
theorem dL_names_233 : decode cL_names 233 = .ok (.aload_n 0, 1) := by decide +kernel
theorem dL_names_234 : decode cL_names 234 = .ok (.iconst 1, 1) := by decide +kernel
theorem dL_names_235 : decode cL_names 235 = .ok (.invokevirtual 57, 3) := by decide +kernel
theorem dL_names_238 : decode cL_names 238 = .ok (.iload 12, 2) := by decide +kernel
theorem dL_names_240 : decode cL_names 240 = .ok (.ifCond .ne 8, 3) := by decide +kernel
theorem dL_names_243 : decode cL_names 243 = .ok (.ldc 60, 2) := by decide +kernel
theorem dL_names_245 : decode cL_names 245 = .ok (.goto 5, 3) := by decide +kernel
theorem dL_names_248 : decode cL_names 248 = .ok (.iload 12, 2) := by decide +kernel
theorem dL_names_250 : decode cL_names 250 = .ok (.if_icmp .ne 38, 3) := by decide +kernel
theorem dL_names_253 : decode cL_names 253 = .ok (.aload_n 0, 1) := by decide +kernel
theorem dL_names_254 : decode cL_names 254 = .ok (.iconst 2, 1) := by decide +kernel
theorem dL_names_255 : decode cL_names 255 = .ok (.invokevirtual 57, 3) := by decide +kernel
theorem dL_names_258 : decode cL_names 258 = .ok (.iload 12, 2) := by decide +kernel
theorem dL_names_260 : decode cL_names 260 = .ok (.ifCond .ne 8, 3) := by decide +kernel
theorem dL_names_263 : decode cL_names 263 = .ok (.ldc 60, 2) := by decide +kernel
theorem dL_names_265 : decode cL_names 265 = .ok (.goto 16, 3) := by decide +kernel
theorem dL_names_268 : decode cL_names 268 = .ok (.iload 12, 2) := by decide +kernel
theorem dL_names_270 : decode cL_names 270 = .ok (.iconst 2, 1) := by decide +kernel
theorem dL_names_271 : decode cL_names 271 = .ok (.if_icmp .ne 8, 3) := by decide +kernel
theorem dL_names_274 : decode cL_names 274 = .ok (.iload 11, 2) := by decide +kernel
theorem dL_names_276 : decode cL_names 276 = .ok (.goto 5, 3) := by decide +kernel
theorem dL_names_279 : decode cL_names 279 = .ok (.iload 7, 2) := by decide +kernel
theorem dL_names_281 : decode cL_names 281 = .ok (.if_icmp .ne 7, 3) := by decide +kernel
theorem dL_names_284 : decode cL_names 284 = .ok (.iconst 1, 1) := by decide +kernel
theorem dL_names_285 : decode cL_names 285 = .ok (.goto 4, 3) := by decide +kernel
theorem dL_names_288 : decode cL_names 288 = .ok (.iconst 0, 1) := by decide +kernel
theorem dL_names_289 : decode cL_names 289 = .ok (.istore 10, 2) := by decide +kernel
theorem dL_names_291 : decode cL_names 291 = .ok (.iload 10, 2) := by decide +kernel
theorem dL_names_293 : decode cL_names 293 = .ok (.ifCond .eq 8, 3) := by decide +kernel
theorem dL_names_296 : decode cL_names 296 = .ok (.iload 12, 2) := by decide +kernel
theorem dL_names_298 : decode cL_names 298 = .ok (.ifCond .le 32, 3) := by decide +kernel
theorem dL_names_301 : decode cL_names 301 = .ok (.iload 10, 2) := by decide +kernel
theorem dL_names_303 : decode cL_names 303 = .ok (.ifCond .eq 25, 3) := by decide +kernel
theorem dL_names_306 : decode cL_names 306 = .ok (.aload_n 0, 1) := by decide +kernel
theorem dL_names_307 : decode cL_names 307 = .ok (.invokevirtual 61, 3) := by decide +kernel
theorem dL_names_310 : decode cL_names 310 = .ok (.ldc 64, 2) := by decide +kernel
theorem dL_names_312 : decode cL_names 312 = .ok (.if_icmp .ne 16, 3) := by decide +kernel
theorem dL_names_315 : decode cL_names 315 = .ok (.aload_n 0, 1) := by decide +kernel
theorem dL_names_316 : decode cL_names 316 = .ok (.invokevirtual 49, 3) := by decide +kernel
theorem dL_names_319 : decode cL_names 319 = .ok (.iload 7, 2) := by decide +kernel
theorem dL_names_321 : decode cL_names 321 = .ok (.if_icmp .ne 7, 3) := by decide +kernel
theorem dL_names_324 : decode cL_names 324 = .ok (.iconst 1, 1) := by decide +kernel
theorem dL_names_325 : decode cL_names 325 = .ok (.goto 4, 3) := by decide +kernel
theorem dL_names_328 : decode cL_names 328 = .ok (.iconst 0, 1) := by decide +kernel
theorem dL_names_329 : decode cL_names 329 = .ok (.ireturn, 1) := by decide +kernel
theorem dL_names_330 : decode cL_names 330 = .ok (.aload_n 1, 1) := by decide +kernel
theorem dL_names_331 : decode cL_names 331 = .ok (.iconst 0, 1) := by decide +kernel
theorem dL_names_332 : decode cL_names 332 = .ok (.iaload, 1) := by decide +kernel
theorem dL_names_333 : decode cL_names 333 = .ok (.istore 13, 2) := by decide +kernel
theorem dL_names_335 : decode cL_names 335 = .ok (.aload_n 2, 1) := by decide +kernel
theorem dL_names_336 : decode cL_names 336 = .ok (.iload 13, 2) := by decide +kernel
theorem dL_names_338 : decode cL_names 338 = .ok (.iload 7, 2) := by decide +kernel
theorem dL_names_340 : decode cL_names 340 = .ok (.iastore, 1) := by decide +kernel
theorem dL_names_341 : decode cL_names 341 = .ok (.aload_n 3, 1) := by decide +kernel
theorem dL_names_342 : decode cL_names 342 = .ok (.iload 13, 2) := by decide +kernel
theorem dL_names_344 : decode cL_names 344 = .ok (.iconst 0, 1) := by decide +kernel
theorem dL_names_345 : decode cL_names 345 = .ok (.iastore, 1) := by decide +kernel
theorem dL_names_346 : decode cL_names 346 = .ok (.aload 4, 2) := by decide +kernel
theorem dL_names_348 : decode cL_names 348 = .ok (.iload 13, 2) := by decide +kernel
theorem dL_names_350 : decode cL_names 350 = .ok (.iconst 0, 1) := by decide +kernel
theorem dL_names_351 : decode cL_names 351 = .ok (.iastore, 1) := by decide +kernel
theorem dL_names_352 : decode cL_names 352 = .ok (.aload 5, 2) := by decide +kernel
theorem dL_names_354 : decode cL_names 354 = .ok (.iconst 2, 1) := by decide +kernel
theorem dL_names_355 : decode cL_names 355 = .ok (.iload 13, 2) := by decide +kernel
theorem dL_names_357 : decode cL_names 357 = .ok (.imul, 1) := by decide +kernel
theorem dL_names_358 : decode cL_names 358 = .ok (.lconst 0, 1) := by decide +kernel
theorem dL_names_359 : decode cL_names 359 = .ok (.lastore, 1) := by decide +kernel
theorem dL_names_360 : decode cL_names 360 = .ok (.aload 5, 2) := by decide +kernel
theorem dL_names_362 : decode cL_names 362 = .ok (.iconst 2, 1) := by decide +kernel
theorem dL_names_363 : decode cL_names 363 = .ok (.iload 13, 2) := by decide +kernel
theorem dL_names_365 : decode cL_names 365 = .ok (.imul, 1) := by decide +kernel
theorem dL_names_366 : decode cL_names 366 = .ok (.iconst 1, 1) := by decide +kernel
theorem dL_names_367 : decode cL_names 367 = .ok (.iadd, 1) := by decide +kernel
theorem dL_names_368 : decode cL_names 368 = .ok (.lconst 0, 1) := by decide +kernel
theorem dL_names_369 : decode cL_names 369 = .ok (.lastore, 1) := by decide +kernel
theorem dL_names_370 : decode cL_names 370 = .ok (.iconst 0, 1) := by decide +kernel
theorem dL_names_371 : decode cL_names 371 = .ok (.istore 14, 2) := by decide +kernel
theorem dL_names_373 : decode cL_names 373 = .ok (.iload 14, 2) := by decide +kernel
theorem dL_names_375 : decode cL_names 375 = .ok (.iload 7, 2) := by decide +kernel
theorem dL_names_377 : decode cL_names 377 = .ok (.if_icmp .ge 87, 3) := by decide +kernel
theorem dL_names_380 : decode cL_names 380 = .ok (.iload 8, 2) := by decide +kernel
theorem dL_names_382 : decode cL_names 382 = .ok (.ifCond .ne 15, 3) := by decide +kernel
theorem dL_names_385 : decode cL_names 385 = .ok (.iload 6, 2) := by decide +kernel
theorem dL_names_387 : decode cL_names 387 = .ok (.iload 14, 2) := by decide +kernel
theorem dL_names_389 : decode cL_names 389 = .ok (.iload 7, 2) := by decide +kernel
theorem dL_names_391 : decode cL_names 391 = .ok (.invokestatic 53, 3) := by decide +kernel
theorem dL_names_394 : decode cL_names 394 = .ok (.goto 31, 3) := by decide +kernel
theorem dL_names_397 : decode cL_names 397 = .ok (.iload 8, 2) := by decide +kernel
theorem dL_names_399 : decode cL_names 399 = .ok (.iconst 1, 1) := by decide +kernel
theorem dL_names_400 : decode cL_names 400 = .ok (.if_icmp .ne 9, 3) := by decide +kernel
theorem dL_names_403 : decode cL_names 403 = .ok (.ldc2_w 23, 3) := by decide +kernel
theorem dL_names_406 : decode cL_names 406 = .ok (.goto 6, 3) := by decide +kernel
theorem dL_names_409 : decode cL_names 409 = .ok (.ldc2_w 29, 3) := by decide +kernel
theorem dL_names_412 : decode cL_names 412 = .ok (.bipush 8, 2) := by decide +kernel
theorem dL_names_414 : decode cL_names 414 = .ok (.iconst 4, 1) := by decide +kernel
theorem dL_names_415 : decode cL_names 415 = .ok (.iload 14, 2) := by decide +kernel
theorem dL_names_417 : decode cL_names 417 = .ok (.isub, 1) := by decide +kernel
theorem dL_names_418 : decode cL_names 418 = .ok (.imul, 1) := by decide +kernel
theorem dL_names_419 : decode cL_names 419 = .ok (.lshr, 1) := by decide +kernel
theorem dL_names_420 : decode cL_names 420 = .ok (.ldc2_w 21, 3) := by decide +kernel
theorem dL_names_423 : decode cL_names 423 = .ok (.land, 1) := by decide +kernel
theorem dL_names_424 : decode cL_names 424 = .ok (.l2i, 1) := by decide +kernel
theorem dL_names_425 : decode cL_names 425 = .ok (.istore 15, 2) := by decide +kernel
theorem dL_names_427 : decode cL_names 427 = .ok (.aload 5, 2) := by decide +kernel
theorem dL_names_429 : decode cL_names 429 = .ok (.iconst 2, 1) := by decide +kernel
theorem dL_names_430 : decode cL_names 430 = .ok (.iload 13, 2) := by decide +kernel
theorem dL_names_432 : decode cL_names 432 = .ok (.imul, 1) := by decide +kernel
theorem dL_names_433 : decode cL_names 433 = .ok (.iload 14, 2) := by decide +kernel
theorem dL_names_435 : decode cL_names 435 = .ok (.bipush 10, 2) := by decide +kernel
theorem dL_names_437 : decode cL_names 437 = .ok (.idiv, 1) := by decide +kernel
theorem dL_names_438 : decode cL_names 438 = .ok (.iadd, 1) := by decide +kernel
theorem dL_names_439 : decode cL_names 439 = .ok (.dup2, 1) := by decide +kernel
theorem dL_names_440 : decode cL_names 440 = .ok (.laload, 1) := by decide +kernel
theorem dL_names_441 : decode cL_names 441 = .ok (.iload 15, 2) := by decide +kernel
theorem dL_names_443 : decode cL_names 443 = .ok (.bipush 31, 2) := by decide +kernel
theorem dL_names_445 : decode cL_names 445 = .ok (.isub, 1) := by decide +kernel
theorem dL_names_446 : decode cL_names 446 = .ok (.i2l, 1) := by decide +kernel
theorem dL_names_447 : decode cL_names 447 = .ok (.bipush 6, 2) := by decide +kernel
theorem dL_names_449 : decode cL_names 449 = .ok (.iload 14, 2) := by decide +kernel
theorem dL_names_451 : decode cL_names 451 = .ok (.bipush 10, 2) := by decide +kernel
theorem dL_names_453 : decode cL_names 453 = .ok (.irem, 1) := by decide +kernel
theorem dL_names_454 : decode cL_names 454 = .ok (.imul, 1) := by decide +kernel
theorem dL_names_455 : decode cL_names 455 = .ok (.lshl, 1) := by decide +kernel
theorem dL_names_456 : decode cL_names 456 = .ok (.lor, 1) := by decide +kernel
theorem dL_names_457 : decode cL_names 457 = .ok (.lastore, 1) := by decide +kernel
theorem dL_names_458 : decode cL_names 458 = .ok (.iinc 14 1, 3) := by decide +kernel
theorem dL_names_461 : decode cL_names 461 = .ok (.goto (-88), 3) := by decide +kernel
theorem dL_names_464 : decode cL_names 464 = .ok (.aload_n 1, 1) := by decide +kernel
theorem dL_names_465 : decode cL_names 465 = .ok (.iconst 0, 1) := by decide +kernel
theorem dL_names_466 : decode cL_names 466 = .ok (.dup2, 1) := by decide +kernel
theorem dL_names_467 : decode cL_names 467 = .ok (.iaload, 1) := by decide +kernel
theorem dL_names_468 : decode cL_names 468 = .ok (.iconst 1, 1) := by decide +kernel
theorem dL_names_469 : decode cL_names 469 = .ok (.iadd, 1) := by decide +kernel
theorem dL_names_470 : decode cL_names 470 = .ok (.iastore, 1) := by decide +kernel
theorem dL_names_471 : decode cL_names 471 = .ok (.aload_n 1, 1) := by decide +kernel
theorem dL_names_472 : decode cL_names 472 = .ok (.iconst 1, 1) := by decide +kernel
theorem dL_names_473 : decode cL_names 473 = .ok (.aload_n 1, 1) := by decide +kernel
theorem dL_names_474 : decode cL_names 474 = .ok (.iconst 1, 1) := by decide +kernel
theorem dL_names_475 : decode cL_names 475 = .ok (.iaload, 1) := by decide +kernel
theorem dL_names_476 : decode cL_names 476 = .ok (.ifCond .ge 7, 3) := by decide +kernel
theorem dL_names_479 : decode cL_names 479 = .ok (.iconst 0, 1) := by decide +kernel
theorem dL_names_480 : decode cL_names 480 = .ok (.goto 6, 3) := by decide +kernel
theorem dL_names_483 : decode cL_names 483 = .ok (.aload_n 1, 1) := by decide +kernel
theorem dL_names_484 : decode cL_names 484 = .ok (.iconst 1, 1) := by decide +kernel
theorem dL_names_485 : decode cL_names 485 = .ok (.iaload, 1) := by decide +kernel
theorem dL_names_486 : decode cL_names 486 = .ok (.iastore, 1) := by decide +kernel
theorem dL_names_487 : decode cL_names 487 = .ok (.iload 13, 2) := by decide +kernel
theorem dL_names_489 : decode cL_names 489 = .ok (.istore 14, 2) := by decide +kernel
theorem dL_names_491 : decode cL_names 491 = .ok (.iload 13, 2) := by decide +kernel
theorem dL_names_493 : decode cL_names 493 = .ok (.iconst 1, 1) := by decide +kernel
theorem dL_names_494 : decode cL_names 494 = .ok (.isub, 1) := by decide +kernel
theorem dL_names_495 : decode cL_names 495 = .ok (.istore 15, 2) := by decide +kernel
theorem dL_names_497 : decode cL_names 497 = .ok (.iload 15, 2) := by decide +kernel
theorem dL_names_499 : decode cL_names 499 = .ok (.ifCond .lt 67, 3) := by decide +kernel
theorem dL_names_502 : decode cL_names 502 = .ok (.aload_n 2, 1) := by decide +kernel
theorem dL_names_503 : decode cL_names 503 = .ok (.iload 15, 2) := by decide +kernel
theorem dL_names_505 : decode cL_names 505 = .ok (.iaload, 1) := by decide +kernel
theorem dL_names_506 : decode cL_names 506 = .ok (.iload 7, 2) := by decide +kernel
theorem dL_names_508 : decode cL_names 508 = .ok (.if_icmp .ne 48, 3) := by decide +kernel
theorem dL_names_511 : decode cL_names 511 = .ok (.aload 5, 2) := by decide +kernel
theorem dL_names_513 : decode cL_names 513 = .ok (.iconst 2, 1) := by decide +kernel
theorem dL_names_514 : decode cL_names 514 = .ok (.iload 15, 2) := by decide +kernel
theorem dL_names_516 : decode cL_names 516 = .ok (.imul, 1) := by decide +kernel
theorem dL_names_517 : decode cL_names 517 = .ok (.laload, 1) := by decide +kernel
theorem dL_names_518 : decode cL_names 518 = .ok (.aload 5, 2) := by decide +kernel
theorem dL_names_520 : decode cL_names 520 = .ok (.iconst 2, 1) := by decide +kernel
theorem dL_names_521 : decode cL_names 521 = .ok (.iload 13, 2) := by decide +kernel
theorem dL_names_523 : decode cL_names 523 = .ok (.imul, 1) := by decide +kernel
theorem dL_names_524 : decode cL_names 524 = .ok (.laload, 1) := by decide +kernel
theorem dL_names_525 : decode cL_names 525 = .ok (.lcmp, 1) := by decide +kernel
theorem dL_names_526 : decode cL_names 526 = .ok (.ifCond .ne 30, 3) := by decide +kernel
theorem dL_names_529 : decode cL_names 529 = .ok (.aload 5, 2) := by decide +kernel
theorem dL_names_531 : decode cL_names 531 = .ok (.iconst 2, 1) := by decide +kernel
theorem dL_names_532 : decode cL_names 532 = .ok (.iload 15, 2) := by decide +kernel
theorem dL_names_534 : decode cL_names 534 = .ok (.imul, 1) := by decide +kernel
theorem dL_names_535 : decode cL_names 535 = .ok (.iconst 1, 1) := by decide +kernel
theorem dL_names_536 : decode cL_names 536 = .ok (.iadd, 1) := by decide +kernel
theorem dL_names_537 : decode cL_names 537 = .ok (.laload, 1) := by decide +kernel
theorem dL_names_538 : decode cL_names 538 = .ok (.aload 5, 2) := by decide +kernel
theorem dL_names_540 : decode cL_names 540 = .ok (.iconst 2, 1) := by decide +kernel
theorem dL_names_541 : decode cL_names 541 = .ok (.iload 13, 2) := by decide +kernel
theorem dL_names_543 : decode cL_names 543 = .ok (.imul, 1) := by decide +kernel
theorem dL_names_544 : decode cL_names 544 = .ok (.iconst 1, 1) := by decide +kernel
theorem dL_names_545 : decode cL_names 545 = .ok (.iadd, 1) := by decide +kernel
theorem dL_names_546 : decode cL_names 546 = .ok (.laload, 1) := by decide +kernel
theorem dL_names_547 : decode cL_names 547 = .ok (.lcmp, 1) := by decide +kernel
theorem dL_names_548 : decode cL_names 548 = .ok (.ifCond .ne 8, 3) := by decide +kernel
theorem dL_names_551 : decode cL_names 551 = .ok (.iload 15, 2) := by decide +kernel
theorem dL_names_553 : decode cL_names 553 = .ok (.goto 5, 3) := by decide +kernel
theorem dL_names_556 : decode cL_names 556 = .ok (.iload 14, 2) := by decide +kernel
theorem dL_names_558 : decode cL_names 558 = .ok (.istore 14, 2) := by decide +kernel
theorem dL_names_560 : decode cL_names 560 = .ok (.iinc 15 (-1), 3) := by decide +kernel
theorem dL_names_563 : decode cL_names 563 = .ok (.goto (-66), 3) := by decide +kernel
theorem dL_names_566 : decode cL_names 566 = .ok (.aload_n 0, 1) := by decide +kernel
theorem dL_names_567 : decode cL_names 567 = .ok (.invokevirtual 61, 3) := by decide +kernel
theorem dL_names_570 : decode cL_names 570 = .ok (.iconst 1, 1) := by decide +kernel
theorem dL_names_571 : decode cL_names 571 = .ok (.if_icmp .ne 34, 3) := by decide +kernel
theorem dL_names_574 : decode cL_names 574 = .ok (.aload_n 0, 1) := by decide +kernel
theorem dL_names_575 : decode cL_names 575 = .ok (.invokevirtual 65, 3) := by decide +kernel
theorem dL_names_578 : decode cL_names 578 = .ok (.iload 14, 2) := by decide +kernel
theorem dL_names_580 : decode cL_names 580 = .ok (.if_icmp .ne 25, 3) := by decide +kernel
theorem dL_names_583 : decode cL_names 583 = .ok (.aload_n 0, 1) := by decide +kernel
theorem dL_names_584 : decode cL_names 584 = .ok (.invokevirtual 49, 3) := by decide +kernel
theorem dL_names_587 : decode cL_names 587 = .ok (.iload 7, 2) := by decide +kernel
theorem dL_names_589 : decode cL_names 589 = .ok (.if_icmp .ne 16, 3) := by decide +kernel
theorem dL_names_592 : decode cL_names 592 = .ok (.aload_n 0, 1) := by decide +kernel
theorem dL_names_593 : decode cL_names 593 = .ok (.invokevirtual 65, 3) := by decide +kernel
theorem dL_names_596 : decode cL_names 596 = .ok (.ldc 60, 2) := by decide +kernel
theorem dL_names_598 : decode cL_names 598 = .ok (.if_icmp .ne 7, 3) := by decide +kernel
theorem dL_names_601 : decode cL_names 601 = .ok (.iconst 1, 1) := by decide +kernel
theorem dL_names_602 : decode cL_names 602 = .ok (.goto 4, 3) := by decide +kernel
theorem dL_names_605 : decode cL_names 605 = .ok (.iconst 0, 1) := by decide +kernel
theorem dL_names_606 : decode cL_names 606 = .ok (.ireturn, 1) := by decide +kernel
theorem dL_rolls_0 : decode cL_rolls 0 = .ok (.aload_n 1, 1) := by decide +kernel
theorem dL_rolls_1 : decode cL_rolls 1 = .ok (.iconst 0, 1) := by decide +kernel
theorem dL_rolls_2 : decode cL_rolls 2 = .ok (.iaload, 1) := by decide +kernel
theorem dL_rolls_3 : decode cL_rolls 3 = .ok (.ifCond .ne 50, 3) := by decide +kernel
theorem dL_rolls_6 : decode cL_rolls 6 = .ok (.aload_n 0, 1) := by decide +kernel
theorem dL_rolls_7 : decode cL_rolls 7 = .ok (.iconst 0, 1) := by decide +kernel
theorem dL_rolls_8 : decode cL_rolls 8 = .ok (.invokevirtual 68, 3) := by decide +kernel
theorem dL_rolls_11 : decode cL_rolls 11 = .ok (.ldc 71, 2) := by decide +kernel
theorem dL_rolls_13 : decode cL_rolls 13 = .ok (.if_icmp .ne 38, 3) := by decide +kernel
theorem dL_rolls_16 : decode cL_rolls 16 = .ok (.aload_n 0, 1) := by decide +kernel
theorem dL_rolls_17 : decode cL_rolls 17 = .ok (.iconst 0, 1) := by decide +kernel
theorem dL_rolls_18 : decode cL_rolls 18 = .ok (.invokevirtual 72, 3) := by decide +kernel
theorem dL_rolls_21 : decode cL_rolls 21 = .ok (.ldc 71, 2) := by decide +kernel
theorem dL_rolls_23 : decode cL_rolls 23 = .ok (.if_icmp .ne 28, 3) := by decide +kernel
theorem dL_rolls_26 : decode cL_rolls 26 = .ok (.aload_n 0, 1) := by decide +kernel
theorem dL_rolls_27 : decode cL_rolls 27 = .ok (.iconst 1, 1) := by decide +kernel
theorem dL_rolls_28 : decode cL_rolls 28 = .ok (.iconst 1, 1) := by decide +kernel
theorem dL_rolls_29 : decode cL_rolls 29 = .ok (.invokevirtual 75, 3) := by decide +kernel
theorem dL_rolls_32 : decode cL_rolls 32 = .ok (.ldc 64, 2) := by decide +kernel
theorem dL_rolls_34 : decode cL_rolls 34 = .ok (.if_icmp .ne 17, 3) := by decide +kernel
theorem dL_rolls_37 : decode cL_rolls 37 = .ok (.aload_n 0, 1) := by decide +kernel
theorem dL_rolls_38 : decode cL_rolls 38 = .ok (.iconst 1, 1) := by decide +kernel
theorem dL_rolls_39 : decode cL_rolls 39 = .ok (.invokevirtual 79, 3) := by decide +kernel
theorem dL_rolls_42 : decode cL_rolls 42 = .ok (.ldc 71, 2) := by decide +kernel
theorem dL_rolls_44 : decode cL_rolls 44 = .ok (.if_icmp .ne 7, 3) := by decide +kernel
theorem dL_rolls_47 : decode cL_rolls 47 = .ok (.iconst 1, 1) := by decide +kernel
theorem dL_rolls_48 : decode cL_rolls 48 = .ok (.goto 4, 3) := by decide +kernel
theorem dL_rolls_51 : decode cL_rolls 51 = .ok (.iconst 0, 1) := by decide +kernel
theorem dL_rolls_52 : decode cL_rolls 52 = .ok (.ireturn, 1) := by decide +kernel
theorem dL_rolls_53 : decode cL_rolls 53 = .ok (.iload 8, 2) := by decide +kernel
theorem dL_rolls_55 : decode cL_rolls 55 = .ok (.aload_n 1, 1) := by decide +kernel
theorem dL_rolls_56 : decode cL_rolls 56 = .ok (.iconst 0, 1) := by decide +kernel
theorem dL_rolls_57 : decode cL_rolls 57 = .ok (.iaload, 1) := by decide +kernel
theorem dL_rolls_58 : decode cL_rolls 58 = .ok (.irem, 1) := by decide +kernel
theorem dL_rolls_59 : decode cL_rolls 59 = .ok (.istore 9, 2) := by decide +kernel
theorem dL_rolls_61 : decode cL_rolls 61 = .ok (.iload 7, 2) := by decide +kernel
theorem dL_rolls_63 : decode cL_rolls 63 = .ok (.ifCond .ne 187, 3) := by decide +kernel
theorem dL_rolls_66 : decode cL_rolls 66 = .ok (.aload_n 1, 1) := by decide +kernel
theorem dL_rolls_67 : decode cL_rolls 67 = .ok (.iconst 0, 1) := by decide +kernel
theorem dL_rolls_68 : decode cL_rolls 68 = .ok (.dup2, 1) := by decide +kernel
theorem dL_rolls_69 : decode cL_rolls 69 = .ok (.iaload, 1) := by decide +kernel
theorem dL_rolls_70 : decode cL_rolls 70 = .ok (.iconst 1, 1) := by decide +kernel
theorem dL_rolls_71 : decode cL_rolls 71 = .ok (.isub, 1) := by decide +kernel
theorem dL_rolls_72 : decode cL_rolls 72 = .ok (.iastore, 1) := by decide +kernel
theorem dL_rolls_73 : decode cL_rolls 73 = .ok (.iload 9, 2) := by decide +kernel
theorem dL_rolls_75 : decode cL_rolls 75 = .ok (.istore 10, 2) := by decide +kernel
theorem dL_rolls_77 : decode cL_rolls 77 = .ok (.iload 10, 2) := by decide +kernel
theorem dL_rolls_79 : decode cL_rolls 79 = .ok (.aload_n 1, 1) := by decide +kernel
theorem dL_rolls_80 : decode cL_rolls 80 = .ok (.iconst 0, 1) := by decide +kernel
theorem dL_rolls_81 : decode cL_rolls 81 = .ok (.iaload, 1) := by decide +kernel
theorem dL_rolls_82 : decode cL_rolls 82 = .ok (.if_icmp .ge 75, 3) := by decide +kernel
theorem dL_rolls_85 : decode cL_rolls 85 = .ok (.aload_n 2, 1) := by decide +kernel
theorem dL_rolls_86 : decode cL_rolls 86 = .ok (.iload 10, 2) := by decide +kernel
theorem dL_rolls_88 : decode cL_rolls 88 = .ok (.aload_n 2, 1) := by decide +kernel
theorem dL_rolls_89 : decode cL_rolls 89 = .ok (.iload 10, 2) := by decide +kernel
theorem dL_rolls_91 : decode cL_rolls 91 = .ok (.iconst 1, 1) := by decide +kernel
theorem dL_rolls_92 : decode cL_rolls 92 = .ok (.iadd, 1) := by decide +kernel
theorem dL_rolls_93 : decode cL_rolls 93 = .ok (.iaload, 1) := by decide +kernel
theorem dL_rolls_94 : decode cL_rolls 94 = .ok (.iastore, 1) := by decide +kernel
theorem dL_rolls_95 : decode cL_rolls 95 = .ok (.aload_n 3, 1) := by decide +kernel
theorem dL_rolls_96 : decode cL_rolls 96 = .ok (.iload 10, 2) := by decide +kernel
theorem dL_rolls_98 : decode cL_rolls 98 = .ok (.aload_n 3, 1) := by decide +kernel
theorem dL_rolls_99 : decode cL_rolls 99 = .ok (.iload 10, 2) := by decide +kernel
theorem dL_rolls_101 : decode cL_rolls 101 = .ok (.iconst 1, 1) := by decide +kernel
theorem dL_rolls_102 : decode cL_rolls 102 = .ok (.iadd, 1) := by decide +kernel
theorem dL_rolls_103 : decode cL_rolls 103 = .ok (.iaload, 1) := by decide +kernel
theorem dL_rolls_104 : decode cL_rolls 104 = .ok (.iastore, 1) := by decide +kernel
theorem dL_rolls_105 : decode cL_rolls 105 = .ok (.aload 4, 2) := by decide +kernel
theorem dL_rolls_107 : decode cL_rolls 107 = .ok (.iload 10, 2) := by decide +kernel
theorem dL_rolls_109 : decode cL_rolls 109 = .ok (.aload 4, 2) := by decide +kernel
theorem dL_rolls_111 : decode cL_rolls 111 = .ok (.iload 10, 2) := by decide +kernel
theorem dL_rolls_113 : decode cL_rolls 113 = .ok (.iconst 1, 1) := by decide +kernel
theorem dL_rolls_114 : decode cL_rolls 114 = .ok (.iadd, 1) := by decide +kernel
theorem dL_rolls_115 : decode cL_rolls 115 = .ok (.iaload, 1) := by decide +kernel
theorem dL_rolls_116 : decode cL_rolls 116 = .ok (.iastore, 1) := by decide +kernel
theorem dL_rolls_117 : decode cL_rolls 117 = .ok (.aload 5, 2) := by decide +kernel
theorem dL_rolls_119 : decode cL_rolls 119 = .ok (.iconst 2, 1) := by decide +kernel
theorem dL_rolls_120 : decode cL_rolls 120 = .ok (.iload 10, 2) := by decide +kernel
theorem dL_rolls_122 : decode cL_rolls 122 = .ok (.imul, 1) := by decide +kernel
theorem dL_rolls_123 : decode cL_rolls 123 = .ok (.aload 5, 2) := by decide +kernel
theorem dL_rolls_125 : decode cL_rolls 125 = .ok (.iconst 2, 1) := by decide +kernel
theorem dL_rolls_126 : decode cL_rolls 126 = .ok (.iload 10, 2) := by decide +kernel
theorem dL_rolls_128 : decode cL_rolls 128 = .ok (.imul, 1) := by decide +kernel
theorem dL_rolls_129 : decode cL_rolls 129 = .ok (.iconst 2, 1) := by decide +kernel
theorem dL_rolls_130 : decode cL_rolls 130 = .ok (.iadd, 1) := by decide +kernel
theorem dL_rolls_131 : decode cL_rolls 131 = .ok (.laload, 1) := by decide +kernel
theorem dL_rolls_132 : decode cL_rolls 132 = .ok (.lastore, 1) := by decide +kernel
theorem dL_rolls_133 : decode cL_rolls 133 = .ok (.aload 5, 2) := by decide +kernel
