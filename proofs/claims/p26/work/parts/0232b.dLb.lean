theorem dL_rolls_135 : decode cL_rolls 135 = .ok (.iconst 2, 1) := by decide +kernel
theorem dL_rolls_136 : decode cL_rolls 136 = .ok (.iload 10, 2) := by decide +kernel
theorem dL_rolls_138 : decode cL_rolls 138 = .ok (.imul, 1) := by decide +kernel
theorem dL_rolls_139 : decode cL_rolls 139 = .ok (.iconst 1, 1) := by decide +kernel
theorem dL_rolls_140 : decode cL_rolls 140 = .ok (.iadd, 1) := by decide +kernel
theorem dL_rolls_141 : decode cL_rolls 141 = .ok (.aload 5, 2) := by decide +kernel
theorem dL_rolls_143 : decode cL_rolls 143 = .ok (.iconst 2, 1) := by decide +kernel
theorem dL_rolls_144 : decode cL_rolls 144 = .ok (.iload 10, 2) := by decide +kernel
theorem dL_rolls_146 : decode cL_rolls 146 = .ok (.imul, 1) := by decide +kernel
theorem dL_rolls_147 : decode cL_rolls 147 = .ok (.iconst 3, 1) := by decide +kernel
theorem dL_rolls_148 : decode cL_rolls 148 = .ok (.iadd, 1) := by decide +kernel
theorem dL_rolls_149 : decode cL_rolls 149 = .ok (.laload, 1) := by decide +kernel
theorem dL_rolls_150 : decode cL_rolls 150 = .ok (.lastore, 1) := by decide +kernel
theorem dL_rolls_151 : decode cL_rolls 151 = .ok (.iinc 10 1, 3) := by decide +kernel
theorem dL_rolls_154 : decode cL_rolls 154 = .ok (.goto (-77), 3) := by decide +kernel
theorem dL_rolls_157 : decode cL_rolls 157 = .ok (.iconst 0, 1) := by decide +kernel
theorem dL_rolls_158 : decode cL_rolls 158 = .ok (.istore 10, 2) := by decide +kernel
theorem dL_rolls_160 : decode cL_rolls 160 = .ok (.iload 10, 2) := by decide +kernel
theorem dL_rolls_162 : decode cL_rolls 162 = .ok (.aload_n 1, 1) := by decide +kernel
theorem dL_rolls_163 : decode cL_rolls 163 = .ok (.iconst 2, 1) := by decide +kernel
theorem dL_rolls_164 : decode cL_rolls 164 = .ok (.iaload, 1) := by decide +kernel
theorem dL_rolls_165 : decode cL_rolls 165 = .ok (.if_icmp .ge 28, 3) := by decide +kernel
theorem dL_rolls_168 : decode cL_rolls 168 = .ok (.aload 6, 2) := by decide +kernel
theorem dL_rolls_170 : decode cL_rolls 170 = .ok (.iconst 3, 1) := by decide +kernel
theorem dL_rolls_171 : decode cL_rolls 171 = .ok (.iload 10, 2) := by decide +kernel
theorem dL_rolls_173 : decode cL_rolls 173 = .ok (.imul, 1) := by decide +kernel
theorem dL_rolls_174 : decode cL_rolls 174 = .ok (.aload 6, 2) := by decide +kernel
theorem dL_rolls_176 : decode cL_rolls 176 = .ok (.iconst 3, 1) := by decide +kernel
theorem dL_rolls_177 : decode cL_rolls 177 = .ok (.iload 10, 2) := by decide +kernel
theorem dL_rolls_179 : decode cL_rolls 179 = .ok (.imul, 1) := by decide +kernel
theorem dL_rolls_180 : decode cL_rolls 180 = .ok (.iaload, 1) := by decide +kernel
theorem dL_rolls_181 : decode cL_rolls 181 = .ok (.iload 9, 2) := by decide +kernel
theorem dL_rolls_183 : decode cL_rolls 183 = .ok (.invokestatic 82, 3) := by decide +kernel
theorem dL_rolls_186 : decode cL_rolls 186 = .ok (.iastore, 1) := by decide +kernel
theorem dL_rolls_187 : decode cL_rolls 187 = .ok (.iinc 10 1, 3) := by decide +kernel
theorem dL_rolls_190 : decode cL_rolls 190 = .ok (.goto (-30), 3) := by decide +kernel
theorem dL_rolls_193 : decode cL_rolls 193 = .ok (.aload_n 1, 1) := by decide +kernel
theorem dL_rolls_194 : decode cL_rolls 194 = .ok (.iconst 1, 1) := by decide +kernel
theorem dL_rolls_195 : decode cL_rolls 195 = .ok (.aload_n 1, 1) := by decide +kernel
theorem dL_rolls_196 : decode cL_rolls 196 = .ok (.iconst 1, 1) := by decide +kernel
theorem dL_rolls_197 : decode cL_rolls 197 = .ok (.iaload, 1) := by decide +kernel
theorem dL_rolls_198 : decode cL_rolls 198 = .ok (.iload 9, 2) := by decide +kernel
theorem dL_rolls_200 : decode cL_rolls 200 = .ok (.if_icmp .le 11, 3) := by decide +kernel
theorem dL_rolls_203 : decode cL_rolls 203 = .ok (.aload_n 1, 1) := by decide +kernel
theorem dL_rolls_204 : decode cL_rolls 204 = .ok (.iconst 1, 1) := by decide +kernel
theorem dL_rolls_205 : decode cL_rolls 205 = .ok (.iaload, 1) := by decide +kernel
theorem dL_rolls_206 : decode cL_rolls 206 = .ok (.iconst 1, 1) := by decide +kernel
theorem dL_rolls_207 : decode cL_rolls 207 = .ok (.isub, 1) := by decide +kernel
theorem dL_rolls_208 : decode cL_rolls 208 = .ok (.goto 23, 3) := by decide +kernel
theorem dL_rolls_211 : decode cL_rolls 211 = .ok (.aload_n 1, 1) := by decide +kernel
theorem dL_rolls_212 : decode cL_rolls 212 = .ok (.iconst 1, 1) := by decide +kernel
theorem dL_rolls_213 : decode cL_rolls 213 = .ok (.iaload, 1) := by decide +kernel
theorem dL_rolls_214 : decode cL_rolls 214 = .ok (.aload_n 1, 1) := by decide +kernel
theorem dL_rolls_215 : decode cL_rolls 215 = .ok (.iconst 0, 1) := by decide +kernel
theorem dL_rolls_216 : decode cL_rolls 216 = .ok (.iaload, 1) := by decide +kernel
theorem dL_rolls_217 : decode cL_rolls 217 = .ok (.if_icmp .ne 11, 3) := by decide +kernel
theorem dL_rolls_220 : decode cL_rolls 220 = .ok (.aload_n 1, 1) := by decide +kernel
theorem dL_rolls_221 : decode cL_rolls 221 = .ok (.iconst 0, 1) := by decide +kernel
theorem dL_rolls_222 : decode cL_rolls 222 = .ok (.iaload, 1) := by decide +kernel
theorem dL_rolls_223 : decode cL_rolls 223 = .ok (.iconst 1, 1) := by decide +kernel
theorem dL_rolls_224 : decode cL_rolls 224 = .ok (.isub, 1) := by decide +kernel
theorem dL_rolls_225 : decode cL_rolls 225 = .ok (.goto 6, 3) := by decide +kernel
theorem dL_rolls_228 : decode cL_rolls 228 = .ok (.aload_n 1, 1) := by decide +kernel
theorem dL_rolls_229 : decode cL_rolls 229 = .ok (.iconst 1, 1) := by decide +kernel
theorem dL_rolls_230 : decode cL_rolls 230 = .ok (.iaload, 1) := by decide +kernel
theorem dL_rolls_231 : decode cL_rolls 231 = .ok (.iastore, 1) := by decide +kernel
theorem dL_rolls_232 : decode cL_rolls 232 = .ok (.aload_n 0, 1) := by decide +kernel
theorem dL_rolls_233 : decode cL_rolls 233 = .ok (.iload 9, 2) := by decide +kernel
theorem dL_rolls_235 : decode cL_rolls 235 = .ok (.invokevirtual 68, 3) := by decide +kernel
theorem dL_rolls_238 : decode cL_rolls 238 = .ok (.aload_n 1, 1) := by decide +kernel
theorem dL_rolls_239 : decode cL_rolls 239 = .ok (.iconst 1, 1) := by decide +kernel
theorem dL_rolls_240 : decode cL_rolls 240 = .ok (.iaload, 1) := by decide +kernel
theorem dL_rolls_241 : decode cL_rolls 241 = .ok (.if_icmp .ne 7, 3) := by decide +kernel
theorem dL_rolls_244 : decode cL_rolls 244 = .ok (.iconst 1, 1) := by decide +kernel
theorem dL_rolls_245 : decode cL_rolls 245 = .ok (.goto 4, 3) := by decide +kernel
theorem dL_rolls_248 : decode cL_rolls 248 = .ok (.iconst 0, 1) := by decide +kernel
theorem dL_rolls_249 : decode cL_rolls 249 = .ok (.ireturn, 1) := by decide +kernel
theorem dL_rolls_250 : decode cL_rolls 250 = .ok (.iload 7, 2) := by decide +kernel
theorem dL_rolls_252 : decode cL_rolls 252 = .ok (.iconst 1, 1) := by decide +kernel
theorem dL_rolls_253 : decode cL_rolls 253 = .ok (.if_icmp .ne 268, 3) := by decide +kernel
theorem dL_rolls_256 : decode cL_rolls 256 = .ok (.iload 8, 2) := by decide +kernel
theorem dL_rolls_258 : decode cL_rolls 258 = .ok (.bipush 20, 2) := by decide +kernel
theorem dL_rolls_260 : decode cL_rolls 260 = .ok (.idiv, 1) := by decide +kernel
theorem dL_rolls_261 : decode cL_rolls 261 = .ok (.aload_n 1, 1) := by decide +kernel
theorem dL_rolls_262 : decode cL_rolls 262 = .ok (.iconst 0, 1) := by decide +kernel
theorem dL_rolls_263 : decode cL_rolls 263 = .ok (.iaload, 1) := by decide +kernel
theorem dL_rolls_264 : decode cL_rolls 264 = .ok (.irem, 1) := by decide +kernel
theorem dL_rolls_265 : decode cL_rolls 265 = .ok (.istore 10, 2) := by decide +kernel
theorem dL_rolls_267 : decode cL_rolls 267 = .ok (.iload 9, 2) := by decide +kernel
theorem dL_rolls_269 : decode cL_rolls 269 = .ok (.iload 10, 2) := by decide +kernel
theorem dL_rolls_271 : decode cL_rolls 271 = .ok (.if_icmp .ne 22, 3) := by decide +kernel
theorem dL_rolls_274 : decode cL_rolls 274 = .ok (.aload_n 0, 1) := by decide +kernel
theorem dL_rolls_275 : decode cL_rolls 275 = .ok (.iload 9, 2) := by decide +kernel
theorem dL_rolls_277 : decode cL_rolls 277 = .ok (.iload 10, 2) := by decide +kernel
theorem dL_rolls_279 : decode cL_rolls 279 = .ok (.invokevirtual 85, 3) := by decide +kernel
theorem dL_rolls_282 : decode cL_rolls 282 = .ok (.ldc 71, 2) := by decide +kernel
theorem dL_rolls_284 : decode cL_rolls 284 = .ok (.if_icmp .ne 7, 3) := by decide +kernel
theorem dL_rolls_287 : decode cL_rolls 287 = .ok (.iconst 1, 1) := by decide +kernel
theorem dL_rolls_288 : decode cL_rolls 288 = .ok (.goto 4, 3) := by decide +kernel
theorem dL_rolls_291 : decode cL_rolls 291 = .ok (.iconst 0, 1) := by decide +kernel
theorem dL_rolls_292 : decode cL_rolls 292 = .ok (.ireturn, 1) := by decide +kernel
theorem dL_rolls_293 : decode cL_rolls 293 = .ok (.aload_n 2, 1) := by decide +kernel
theorem dL_rolls_294 : decode cL_rolls 294 = .ok (.iload 9, 2) := by decide +kernel
theorem dL_rolls_296 : decode cL_rolls 296 = .ok (.iaload, 1) := by decide +kernel
theorem dL_rolls_297 : decode cL_rolls 297 = .ok (.istore 11, 2) := by decide +kernel
theorem dL_rolls_299 : decode cL_rolls 299 = .ok (.aload_n 3, 1) := by decide +kernel
theorem dL_rolls_300 : decode cL_rolls 300 = .ok (.iload 9, 2) := by decide +kernel
theorem dL_rolls_302 : decode cL_rolls 302 = .ok (.iaload, 1) := by decide +kernel
theorem dL_rolls_303 : decode cL_rolls 303 = .ok (.istore 12, 2) := by decide +kernel
theorem dL_rolls_305 : decode cL_rolls 305 = .ok (.aload 4, 2) := by decide +kernel
theorem dL_rolls_307 : decode cL_rolls 307 = .ok (.iload 9, 2) := by decide +kernel
theorem dL_rolls_309 : decode cL_rolls 309 = .ok (.iaload, 1) := by decide +kernel
theorem dL_rolls_310 : decode cL_rolls 310 = .ok (.istore 13, 2) := by decide +kernel
theorem dL_rolls_312 : decode cL_rolls 312 = .ok (.aload 5, 2) := by decide +kernel
theorem dL_rolls_314 : decode cL_rolls 314 = .ok (.iconst 2, 1) := by decide +kernel
theorem dL_rolls_315 : decode cL_rolls 315 = .ok (.iload 9, 2) := by decide +kernel
theorem dL_rolls_317 : decode cL_rolls 317 = .ok (.imul, 1) := by decide +kernel
theorem dL_rolls_318 : decode cL_rolls 318 = .ok (.laload, 1) := by decide +kernel
theorem dL_rolls_319 : decode cL_rolls 319 = .ok (.lstore 14, 2) := by decide +kernel
theorem dL_rolls_321 : decode cL_rolls 321 = .ok (.aload 5, 2) := by decide +kernel
theorem dL_rolls_323 : decode cL_rolls 323 = .ok (.iconst 2, 1) := by decide +kernel
theorem dL_rolls_324 : decode cL_rolls 324 = .ok (.iload 9, 2) := by decide +kernel
theorem dL_rolls_326 : decode cL_rolls 326 = .ok (.imul, 1) := by decide +kernel
theorem dL_rolls_327 : decode cL_rolls 327 = .ok (.iconst 1, 1) := by decide +kernel
theorem dL_rolls_328 : decode cL_rolls 328 = .ok (.iadd, 1) := by decide +kernel
theorem dL_rolls_329 : decode cL_rolls 329 = .ok (.laload, 1) := by decide +kernel
theorem dL_rolls_330 : decode cL_rolls 330 = .ok (.lstore 16, 2) := by decide +kernel
theorem dL_rolls_332 : decode cL_rolls 332 = .ok (.aload_n 2, 1) := by decide +kernel
theorem dL_rolls_333 : decode cL_rolls 333 = .ok (.iload 9, 2) := by decide +kernel
theorem dL_rolls_335 : decode cL_rolls 335 = .ok (.aload_n 2, 1) := by decide +kernel
theorem dL_rolls_336 : decode cL_rolls 336 = .ok (.iload 10, 2) := by decide +kernel
theorem dL_rolls_338 : decode cL_rolls 338 = .ok (.iaload, 1) := by decide +kernel
theorem dL_rolls_339 : decode cL_rolls 339 = .ok (.iastore, 1) := by decide +kernel
theorem dL_rolls_340 : decode cL_rolls 340 = .ok (.aload_n 3, 1) := by decide +kernel
theorem dL_rolls_341 : decode cL_rolls 341 = .ok (.iload 9, 2) := by decide +kernel
theorem dL_rolls_343 : decode cL_rolls 343 = .ok (.aload_n 3, 1) := by decide +kernel
theorem dL_rolls_344 : decode cL_rolls 344 = .ok (.iload 10, 2) := by decide +kernel
theorem dL_rolls_346 : decode cL_rolls 346 = .ok (.iaload, 1) := by decide +kernel
theorem dL_rolls_347 : decode cL_rolls 347 = .ok (.iastore, 1) := by decide +kernel
theorem dL_rolls_348 : decode cL_rolls 348 = .ok (.aload 4, 2) := by decide +kernel
theorem dL_rolls_350 : decode cL_rolls 350 = .ok (.iload 9, 2) := by decide +kernel
theorem dL_rolls_352 : decode cL_rolls 352 = .ok (.aload 4, 2) := by decide +kernel
theorem dL_rolls_354 : decode cL_rolls 354 = .ok (.iload 10, 2) := by decide +kernel
theorem dL_rolls_356 : decode cL_rolls 356 = .ok (.iaload, 1) := by decide +kernel
theorem dL_rolls_357 : decode cL_rolls 357 = .ok (.iastore, 1) := by decide +kernel
theorem dL_rolls_358 : decode cL_rolls 358 = .ok (.aload 5, 2) := by decide +kernel
theorem dL_rolls_360 : decode cL_rolls 360 = .ok (.iconst 2, 1) := by decide +kernel
theorem dL_rolls_361 : decode cL_rolls 361 = .ok (.iload 9, 2) := by decide +kernel
theorem dL_rolls_363 : decode cL_rolls 363 = .ok (.imul, 1) := by decide +kernel
theorem dL_rolls_364 : decode cL_rolls 364 = .ok (.aload 5, 2) := by decide +kernel
theorem dL_rolls_366 : decode cL_rolls 366 = .ok (.iconst 2, 1) := by decide +kernel
theorem dL_rolls_367 : decode cL_rolls 367 = .ok (.iload 10, 2) := by decide +kernel
theorem dL_rolls_369 : decode cL_rolls 369 = .ok (.imul, 1) := by decide +kernel
theorem dL_rolls_370 : decode cL_rolls 370 = .ok (.laload, 1) := by decide +kernel
theorem dL_rolls_371 : decode cL_rolls 371 = .ok (.lastore, 1) := by decide +kernel
theorem dL_rolls_372 : decode cL_rolls 372 = .ok (.aload 5, 2) := by decide +kernel
theorem dL_rolls_374 : decode cL_rolls 374 = .ok (.iconst 2, 1) := by decide +kernel
theorem dL_rolls_375 : decode cL_rolls 375 = .ok (.iload 9, 2) := by decide +kernel
theorem dL_rolls_377 : decode cL_rolls 377 = .ok (.imul, 1) := by decide +kernel
theorem dL_rolls_378 : decode cL_rolls 378 = .ok (.iconst 1, 1) := by decide +kernel
theorem dL_rolls_379 : decode cL_rolls 379 = .ok (.iadd, 1) := by decide +kernel
theorem dL_rolls_380 : decode cL_rolls 380 = .ok (.aload 5, 2) := by decide +kernel
theorem dL_rolls_382 : decode cL_rolls 382 = .ok (.iconst 2, 1) := by decide +kernel
theorem dL_rolls_383 : decode cL_rolls 383 = .ok (.iload 10, 2) := by decide +kernel
theorem dL_rolls_385 : decode cL_rolls 385 = .ok (.imul, 1) := by decide +kernel
theorem dL_rolls_386 : decode cL_rolls 386 = .ok (.iconst 1, 1) := by decide +kernel
theorem dL_rolls_387 : decode cL_rolls 387 = .ok (.iadd, 1) := by decide +kernel
theorem dL_rolls_388 : decode cL_rolls 388 = .ok (.laload, 1) := by decide +kernel
theorem dL_rolls_389 : decode cL_rolls 389 = .ok (.lastore, 1) := by decide +kernel
theorem dL_rolls_390 : decode cL_rolls 390 = .ok (.aload_n 2, 1) := by decide +kernel
theorem dL_rolls_391 : decode cL_rolls 391 = .ok (.iload 10, 2) := by decide +kernel
theorem dL_rolls_393 : decode cL_rolls 393 = .ok (.iload 11, 2) := by decide +kernel
theorem dL_rolls_395 : decode cL_rolls 395 = .ok (.iastore, 1) := by decide +kernel
theorem dL_rolls_396 : decode cL_rolls 396 = .ok (.aload_n 3, 1) := by decide +kernel
theorem dL_rolls_397 : decode cL_rolls 397 = .ok (.iload 10, 2) := by decide +kernel
theorem dL_rolls_399 : decode cL_rolls 399 = .ok (.iload 12, 2) := by decide +kernel
theorem dL_rolls_401 : decode cL_rolls 401 = .ok (.iastore, 1) := by decide +kernel
theorem dL_rolls_402 : decode cL_rolls 402 = .ok (.aload 4, 2) := by decide +kernel
theorem dL_rolls_404 : decode cL_rolls 404 = .ok (.iload 10, 2) := by decide +kernel
theorem dL_rolls_406 : decode cL_rolls 406 = .ok (.iload 13, 2) := by decide +kernel
theorem dL_rolls_408 : decode cL_rolls 408 = .ok (.iastore, 1) := by decide +kernel
theorem dL_rolls_409 : decode cL_rolls 409 = .ok (.aload 5, 2) := by decide +kernel
theorem dL_rolls_411 : decode cL_rolls 411 = .ok (.iconst 2, 1) := by decide +kernel
theorem dL_rolls_412 : decode cL_rolls 412 = .ok (.iload 10, 2) := by decide +kernel
theorem dL_rolls_414 : decode cL_rolls 414 = .ok (.imul, 1) := by decide +kernel
theorem dL_rolls_415 : decode cL_rolls 415 = .ok (.lload 14, 2) := by decide +kernel
theorem dL_rolls_417 : decode cL_rolls 417 = .ok (.lastore, 1) := by decide +kernel
theorem dL_rolls_418 : decode cL_rolls 418 = .ok (.aload 5, 2) := by decide +kernel
theorem dL_rolls_420 : decode cL_rolls 420 = .ok (.iconst 2, 1) := by decide +kernel
theorem dL_rolls_421 : decode cL_rolls 421 = .ok (.iload 10, 2) := by decide +kernel
theorem dL_rolls_423 : decode cL_rolls 423 = .ok (.imul, 1) := by decide +kernel
theorem dL_rolls_424 : decode cL_rolls 424 = .ok (.iconst 1, 1) := by decide +kernel
theorem dL_rolls_425 : decode cL_rolls 425 = .ok (.iadd, 1) := by decide +kernel
theorem dL_rolls_426 : decode cL_rolls 426 = .ok (.lload 16, 2) := by decide +kernel
theorem dL_rolls_428 : decode cL_rolls 428 = .ok (.lastore, 1) := by decide +kernel
theorem dL_rolls_429 : decode cL_rolls 429 = .ok (.iconst 0, 1) := by decide +kernel
theorem dL_rolls_430 : decode cL_rolls 430 = .ok (.istore 18, 2) := by decide +kernel
theorem dL_rolls_432 : decode cL_rolls 432 = .ok (.iload 18, 2) := by decide +kernel
theorem dL_rolls_434 : decode cL_rolls 434 = .ok (.aload_n 1, 1) := by decide +kernel
theorem dL_rolls_435 : decode cL_rolls 435 = .ok (.iconst 2, 1) := by decide +kernel
theorem dL_rolls_436 : decode cL_rolls 436 = .ok (.iaload, 1) := by decide +kernel
theorem dL_rolls_437 : decode cL_rolls 437 = .ok (.if_icmp .ge 64, 3) := by decide +kernel
theorem dL_rolls_440 : decode cL_rolls 440 = .ok (.aload 6, 2) := by decide +kernel
theorem dL_rolls_442 : decode cL_rolls 442 = .ok (.iconst 3, 1) := by decide +kernel
theorem dL_rolls_443 : decode cL_rolls 443 = .ok (.iload 18, 2) := by decide +kernel
theorem dL_rolls_445 : decode cL_rolls 445 = .ok (.imul, 1) := by decide +kernel
theorem dL_rolls_446 : decode cL_rolls 446 = .ok (.iaload, 1) := by decide +kernel
theorem dL_rolls_447 : decode cL_rolls 447 = .ok (.iload 9, 2) := by decide +kernel
theorem dL_rolls_449 : decode cL_rolls 449 = .ok (.ishr, 1) := by decide +kernel
theorem dL_rolls_450 : decode cL_rolls 450 = .ok (.iconst 1, 1) := by decide +kernel
theorem dL_rolls_451 : decode cL_rolls 451 = .ok (.iand, 1) := by decide +kernel
theorem dL_rolls_452 : decode cL_rolls 452 = .ok (.istore 19, 2) := by decide +kernel
theorem dL_rolls_454 : decode cL_rolls 454 = .ok (.aload 6, 2) := by decide +kernel
theorem dL_rolls_456 : decode cL_rolls 456 = .ok (.iconst 3, 1) := by decide +kernel
theorem dL_rolls_457 : decode cL_rolls 457 = .ok (.iload 18, 2) := by decide +kernel
theorem dL_rolls_459 : decode cL_rolls 459 = .ok (.imul, 1) := by decide +kernel
theorem dL_rolls_460 : decode cL_rolls 460 = .ok (.iaload, 1) := by decide +kernel
theorem dL_rolls_461 : decode cL_rolls 461 = .ok (.iload 10, 2) := by decide +kernel
theorem dL_rolls_463 : decode cL_rolls 463 = .ok (.ishr, 1) := by decide +kernel
theorem dL_rolls_464 : decode cL_rolls 464 = .ok (.iconst 1, 1) := by decide +kernel
theorem dL_rolls_465 : decode cL_rolls 465 = .ok (.iand, 1) := by decide +kernel
theorem dL_rolls_466 : decode cL_rolls 466 = .ok (.istore 20, 2) := by decide +kernel
theorem dL_rolls_468 : decode cL_rolls 468 = .ok (.aload 6, 2) := by decide +kernel
theorem dL_rolls_470 : decode cL_rolls 470 = .ok (.iconst 3, 1) := by decide +kernel
theorem dL_rolls_471 : decode cL_rolls 471 = .ok (.iload 18, 2) := by decide +kernel
theorem dL_rolls_473 : decode cL_rolls 473 = .ok (.imul, 1) := by decide +kernel
theorem dL_rolls_474 : decode cL_rolls 474 = .ok (.dup2, 1) := by decide +kernel
theorem dL_rolls_475 : decode cL_rolls 475 = .ok (.iaload, 1) := by decide +kernel
theorem dL_rolls_476 : decode cL_rolls 476 = .ok (.iload 20, 2) := by decide +kernel
theorem dL_rolls_478 : decode cL_rolls 478 = .ok (.iload 19, 2) := by decide +kernel
theorem dL_rolls_480 : decode cL_rolls 480 = .ok (.isub, 1) := by decide +kernel
theorem dL_rolls_481 : decode cL_rolls 481 = .ok (.iload 9, 2) := by decide +kernel
theorem dL_rolls_483 : decode cL_rolls 483 = .ok (.ishl, 1) := by decide +kernel
theorem dL_rolls_484 : decode cL_rolls 484 = .ok (.iload 19, 2) := by decide +kernel
theorem dL_rolls_486 : decode cL_rolls 486 = .ok (.iload 20, 2) := by decide +kernel
theorem dL_rolls_488 : decode cL_rolls 488 = .ok (.isub, 1) := by decide +kernel
theorem dL_rolls_489 : decode cL_rolls 489 = .ok (.iload 10, 2) := by decide +kernel
theorem dL_rolls_491 : decode cL_rolls 491 = .ok (.ishl, 1) := by decide +kernel
theorem dL_rolls_492 : decode cL_rolls 492 = .ok (.iadd, 1) := by decide +kernel
theorem dL_rolls_493 : decode cL_rolls 493 = .ok (.iadd, 1) := by decide +kernel
theorem dL_rolls_494 : decode cL_rolls 494 = .ok (.iastore, 1) := by decide +kernel
theorem dL_rolls_495 : decode cL_rolls 495 = .ok (.iinc 18 1, 3) := by decide +kernel
theorem dL_rolls_498 : decode cL_rolls 498 = .ok (.goto (-66), 3) := by decide +kernel
theorem dL_rolls_501 : decode cL_rolls 501 = .ok (.aload_n 0, 1) := by decide +kernel
theorem dL_rolls_502 : decode cL_rolls 502 = .ok (.iload 9, 2) := by decide +kernel
theorem dL_rolls_504 : decode cL_rolls 504 = .ok (.iload 10, 2) := by decide +kernel
theorem dL_rolls_506 : decode cL_rolls 506 = .ok (.invokevirtual 85, 3) := by decide +kernel
theorem dL_rolls_509 : decode cL_rolls 509 = .ok (.aload_n 1, 1) := by decide +kernel
theorem dL_rolls_510 : decode cL_rolls 510 = .ok (.iconst 1, 1) := by decide +kernel
theorem dL_rolls_511 : decode cL_rolls 511 = .ok (.iaload, 1) := by decide +kernel
theorem dL_rolls_512 : decode cL_rolls 512 = .ok (.if_icmp .ne 7, 3) := by decide +kernel
theorem dL_rolls_515 : decode cL_rolls 515 = .ok (.iconst 1, 1) := by decide +kernel
theorem dL_rolls_516 : decode cL_rolls 516 = .ok (.goto 4, 3) := by decide +kernel
theorem dL_rolls_519 : decode cL_rolls 519 = .ok (.iconst 0, 1) := by decide +kernel
theorem dL_rolls_520 : decode cL_rolls 520 = .ok (.ireturn, 1) := by decide +kernel
theorem dL_rolls_521 : decode cL_rolls 521 = .ok (.iload 7, 2) := by decide +kernel
theorem dL_rolls_523 : decode cL_rolls 523 = .ok (.iconst 2, 1) := by decide +kernel
theorem dL_rolls_524 : decode cL_rolls 524 = .ok (.if_icmp .ne 61, 3) := by decide +kernel
theorem dL_rolls_527 : decode cL_rolls 527 = .ok (.aload 4, 2) := by decide +kernel
theorem dL_rolls_529 : decode cL_rolls 529 = .ok (.iload 9, 2) := by decide +kernel
theorem dL_rolls_531 : decode cL_rolls 531 = .ok (.iaload, 1) := by decide +kernel
theorem dL_rolls_532 : decode cL_rolls 532 = .ok (.ifCond .ne 20, 3) := by decide +kernel
theorem dL_rolls_535 : decode cL_rolls 535 = .ok (.aload_n 0, 1) := by decide +kernel
theorem dL_rolls_536 : decode cL_rolls 536 = .ok (.iload 9, 2) := by decide +kernel
theorem dL_rolls_538 : decode cL_rolls 538 = .ok (.invokevirtual 72, 3) := by decide +kernel
theorem dL_rolls_541 : decode cL_rolls 541 = .ok (.ldc 64, 2) := by decide +kernel
theorem dL_rolls_543 : decode cL_rolls 543 = .ok (.if_icmp .ne 7, 3) := by decide +kernel
theorem dL_rolls_546 : decode cL_rolls 546 = .ok (.iconst 1, 1) := by decide +kernel
theorem dL_rolls_547 : decode cL_rolls 547 = .ok (.goto 4, 3) := by decide +kernel
theorem dL_rolls_550 : decode cL_rolls 550 = .ok (.iconst 0, 1) := by decide +kernel
theorem dL_rolls_551 : decode cL_rolls 551 = .ok (.ireturn, 1) := by decide +kernel
theorem dL_rolls_552 : decode cL_rolls 552 = .ok (.aload_n 3, 1) := by decide +kernel
theorem dL_rolls_553 : decode cL_rolls 553 = .ok (.iload 9, 2) := by decide +kernel
theorem dL_rolls_555 : decode cL_rolls 555 = .ok (.dup2, 1) := by decide +kernel
theorem dL_rolls_556 : decode cL_rolls 556 = .ok (.iaload, 1) := by decide +kernel
theorem dL_rolls_557 : decode cL_rolls 557 = .ok (.iconst 2, 1) := by decide +kernel
theorem dL_rolls_558 : decode cL_rolls 558 = .ok (.idiv, 1) := by decide +kernel
theorem dL_rolls_559 : decode cL_rolls 559 = .ok (.iastore, 1) := by decide +kernel
theorem dL_rolls_560 : decode cL_rolls 560 = .ok (.aload 4, 2) := by decide +kernel
theorem dL_rolls_562 : decode cL_rolls 562 = .ok (.iload 9, 2) := by decide +kernel
theorem dL_rolls_564 : decode cL_rolls 564 = .ok (.iconst 0, 1) := by decide +kernel
theorem dL_rolls_565 : decode cL_rolls 565 = .ok (.iastore, 1) := by decide +kernel
theorem dL_rolls_566 : decode cL_rolls 566 = .ok (.aload_n 0, 1) := by decide +kernel
theorem dL_rolls_567 : decode cL_rolls 567 = .ok (.iload 9, 2) := by decide +kernel
theorem dL_rolls_569 : decode cL_rolls 569 = .ok (.invokevirtual 72, 3) := by decide +kernel
theorem dL_rolls_572 : decode cL_rolls 572 = .ok (.aload_n 3, 1) := by decide +kernel
theorem dL_rolls_573 : decode cL_rolls 573 = .ok (.iload 9, 2) := by decide +kernel
theorem dL_rolls_575 : decode cL_rolls 575 = .ok (.iaload, 1) := by decide +kernel
theorem dL_rolls_576 : decode cL_rolls 576 = .ok (.if_icmp .ne 7, 3) := by decide +kernel
theorem dL_rolls_579 : decode cL_rolls 579 = .ok (.iconst 1, 1) := by decide +kernel
theorem dL_rolls_580 : decode cL_rolls 580 = .ok (.goto 4, 3) := by decide +kernel
theorem dL_rolls_583 : decode cL_rolls 583 = .ok (.iconst 0, 1) := by decide +kernel
theorem dL_rolls_584 : decode cL_rolls 584 = .ok (.ireturn, 1) := by decide +kernel
theorem dL_rolls_585 : decode cL_rolls 585 = .ok (.iload 7, 2) := by decide +kernel
theorem dL_rolls_587 : decode cL_rolls 587 = .ok (.iconst 3, 1) := by decide +kernel
theorem dL_rolls_588 : decode cL_rolls 588 = .ok (.if_icmp .ne 75, 3) := by decide +kernel
theorem dL_rolls_591 : decode cL_rolls 591 = .ok (.iload 8, 2) := by decide +kernel
theorem dL_rolls_593 : decode cL_rolls 593 = .ok (.bipush 41, 2) := by decide +kernel
theorem dL_rolls_595 : decode cL_rolls 595 = .ok (.irem, 1) := by decide +kernel
theorem dL_rolls_596 : decode cL_rolls 596 = .ok (.bipush 20, 2) := by decide +kernel
theorem dL_rolls_598 : decode cL_rolls 598 = .ok (.isub, 1) := by decide +kernel
theorem dL_rolls_599 : decode cL_rolls 599 = .ok (.istore 10, 2) := by decide +kernel
theorem dL_rolls_601 : decode cL_rolls 601 = .ok (.iload 10, 2) := by decide +kernel
theorem dL_rolls_603 : decode cL_rolls 603 = .ok (.ifCond .ne 7, 3) := by decide +kernel
theorem dL_rolls_606 : decode cL_rolls 606 = .ok (.iconst 1, 1) := by decide +kernel
theorem dL_rolls_607 : decode cL_rolls 607 = .ok (.goto 5, 3) := by decide +kernel
theorem dL_rolls_610 : decode cL_rolls 610 = .ok (.iload 10, 2) := by decide +kernel
theorem dL_rolls_612 : decode cL_rolls 612 = .ok (.istore 10, 2) := by decide +kernel
theorem dL_rolls_614 : decode cL_rolls 614 = .ok (.iconst 1, 1) := by decide +kernel
theorem dL_rolls_615 : decode cL_rolls 615 = .ok (.iload 8, 2) := by decide +kernel
theorem dL_rolls_617 : decode cL_rolls 617 = .ok (.bipush 41, 2) := by decide +kernel
theorem dL_rolls_619 : decode cL_rolls 619 = .ok (.idiv, 1) := by decide +kernel
theorem dL_rolls_620 : decode cL_rolls 620 = .ok (.iconst 3, 1) := by decide +kernel
theorem dL_rolls_621 : decode cL_rolls 621 = .ok (.irem, 1) := by decide +kernel
theorem dL_rolls_622 : decode cL_rolls 622 = .ok (.iadd, 1) := by decide +kernel
theorem dL_rolls_623 : decode cL_rolls 623 = .ok (.istore 11, 2) := by decide +kernel
theorem dL_rolls_625 : decode cL_rolls 625 = .ok (.aload_n 1, 1) := by decide +kernel
theorem dL_rolls_626 : decode cL_rolls 626 = .ok (.aload_n 3, 1) := by decide +kernel
theorem dL_rolls_627 : decode cL_rolls 627 = .ok (.aload 4, 2) := by decide +kernel
theorem dL_rolls_629 : decode cL_rolls 629 = .ok (.iload 10, 2) := by decide +kernel
theorem dL_rolls_631 : decode cL_rolls 631 = .ok (.iload 11, 2) := by decide +kernel
theorem dL_rolls_633 : decode cL_rolls 633 = .ok (.invokestatic 88, 3) := by decide +kernel
theorem dL_rolls_636 : decode cL_rolls 636 = .ok (.istore 12, 2) := by decide +kernel
theorem dL_rolls_638 : decode cL_rolls 638 = .ok (.iload 12, 2) := by decide +kernel
theorem dL_rolls_640 : decode cL_rolls 640 = .ok (.ifCond .lt 21, 3) := by decide +kernel
theorem dL_rolls_643 : decode cL_rolls 643 = .ok (.aload_n 0, 1) := by decide +kernel
theorem dL_rolls_644 : decode cL_rolls 644 = .ok (.iload 10, 2) := by decide +kernel
theorem dL_rolls_646 : decode cL_rolls 646 = .ok (.iload 11, 2) := by decide +kernel
theorem dL_rolls_648 : decode cL_rolls 648 = .ok (.invokevirtual 75, 3) := by decide +kernel
theorem dL_rolls_651 : decode cL_rolls 651 = .ok (.aload_n 1, 1) := by decide +kernel
theorem dL_rolls_652 : decode cL_rolls 652 = .ok (.iconst 1, 1) := by decide +kernel
theorem dL_rolls_653 : decode cL_rolls 653 = .ok (.iaload, 1) := by decide +kernel
theorem dL_rolls_654 : decode cL_rolls 654 = .ok (.if_icmp .ne 7, 3) := by decide +kernel
theorem dL_rolls_657 : decode cL_rolls 657 = .ok (.iconst 1, 1) := by decide +kernel
theorem dL_rolls_658 : decode cL_rolls 658 = .ok (.goto 4, 3) := by decide +kernel
theorem dL_rolls_661 : decode cL_rolls 661 = .ok (.iconst 0, 1) := by decide +kernel
theorem dL_rolls_662 : decode cL_rolls 662 = .ok (.ireturn, 1) := by decide +kernel
theorem dL_rolls_663 : decode cL_rolls 663 = .ok (.iconst 1, 1) := by decide +kernel
theorem dL_rolls_664 : decode cL_rolls 664 = .ok (.iload 8, 2) := by decide +kernel
theorem dL_rolls_666 : decode cL_rolls 666 = .ok (.iconst 3, 1) := by decide +kernel
theorem dL_rolls_667 : decode cL_rolls 667 = .ok (.idiv, 1) := by decide +kernel
theorem dL_rolls_668 : decode cL_rolls 668 = .ok (.iconst 1, 1) := by decide +kernel
theorem dL_rolls_669 : decode cL_rolls 669 = .ok (.aload_n 1, 1) := by decide +kernel
theorem dL_rolls_670 : decode cL_rolls 670 = .ok (.iconst 0, 1) := by decide +kernel
theorem dL_rolls_671 : decode cL_rolls 671 = .ok (.iaload, 1) := by decide +kernel
theorem dL_rolls_672 : decode cL_rolls 672 = .ok (.ishl, 1) := by decide +kernel
theorem dL_rolls_673 : decode cL_rolls 673 = .ok (.iconst 1, 1) := by decide +kernel
theorem dL_rolls_674 : decode cL_rolls 674 = .ok (.isub, 1) := by decide +kernel
theorem dL_rolls_675 : decode cL_rolls 675 = .ok (.irem, 1) := by decide +kernel
theorem dL_rolls_676 : decode cL_rolls 676 = .ok (.iadd, 1) := by decide +kernel
theorem dL_rolls_677 : decode cL_rolls 677 = .ok (.istore 10, 2) := by decide +kernel
theorem dL_rolls_679 : decode cL_rolls 679 = .ok (.aload_n 1, 1) := by decide +kernel
theorem dL_rolls_680 : decode cL_rolls 680 = .ok (.iconst 2, 1) := by decide +kernel
theorem dL_rolls_681 : decode cL_rolls 681 = .ok (.iaload, 1) := by decide +kernel
theorem dL_rolls_682 : decode cL_rolls 682 = .ok (.bipush 6, 2) := by decide +kernel
theorem dL_rolls_684 : decode cL_rolls 684 = .ok (.if_icmp .ne 20, 3) := by decide +kernel
theorem dL_rolls_687 : decode cL_rolls 687 = .ok (.aload_n 0, 1) := by decide +kernel
theorem dL_rolls_688 : decode cL_rolls 688 = .ok (.iload 10, 2) := by decide +kernel
theorem dL_rolls_690 : decode cL_rolls 690 = .ok (.invokevirtual 79, 3) := by decide +kernel
theorem dL_rolls_693 : decode cL_rolls 693 = .ok (.ldc 91, 2) := by decide +kernel
theorem dL_rolls_695 : decode cL_rolls 695 = .ok (.if_icmp .ne 7, 3) := by decide +kernel
theorem dL_rolls_698 : decode cL_rolls 698 = .ok (.iconst 1, 1) := by decide +kernel
theorem dL_rolls_699 : decode cL_rolls 699 = .ok (.goto 4, 3) := by decide +kernel
theorem dL_rolls_702 : decode cL_rolls 702 = .ok (.iconst 0, 1) := by decide +kernel
theorem dL_rolls_703 : decode cL_rolls 703 = .ok (.ireturn, 1) := by decide +kernel
theorem dL_rolls_704 : decode cL_rolls 704 = .ok (.aload 6, 2) := by decide +kernel
theorem dL_rolls_706 : decode cL_rolls 706 = .ok (.iconst 3, 1) := by decide +kernel
theorem dL_rolls_707 : decode cL_rolls 707 = .ok (.aload_n 1, 1) := by decide +kernel
theorem dL_rolls_708 : decode cL_rolls 708 = .ok (.iconst 2, 1) := by decide +kernel
theorem dL_rolls_709 : decode cL_rolls 709 = .ok (.iaload, 1) := by decide +kernel
theorem dL_rolls_710 : decode cL_rolls 710 = .ok (.imul, 1) := by decide +kernel
theorem dL_rolls_711 : decode cL_rolls 711 = .ok (.iload 10, 2) := by decide +kernel
theorem dL_rolls_713 : decode cL_rolls 713 = .ok (.iastore, 1) := by decide +kernel
theorem dL_rolls_714 : decode cL_rolls 714 = .ok (.aload 6, 2) := by decide +kernel
theorem dL_rolls_716 : decode cL_rolls 716 = .ok (.iconst 3, 1) := by decide +kernel
theorem dL_rolls_717 : decode cL_rolls 717 = .ok (.aload_n 1, 1) := by decide +kernel
theorem dL_rolls_718 : decode cL_rolls 718 = .ok (.iconst 2, 1) := by decide +kernel
theorem dL_rolls_719 : decode cL_rolls 719 = .ok (.iaload, 1) := by decide +kernel
theorem dL_rolls_720 : decode cL_rolls 720 = .ok (.imul, 1) := by decide +kernel
theorem dL_rolls_721 : decode cL_rolls 721 = .ok (.iconst 1, 1) := by decide +kernel
theorem dL_rolls_722 : decode cL_rolls 722 = .ok (.iadd, 1) := by decide +kernel
theorem dL_rolls_723 : decode cL_rolls 723 = .ok (.iconst 0, 1) := by decide +kernel
theorem dL_rolls_724 : decode cL_rolls 724 = .ok (.iastore, 1) := by decide +kernel
theorem dL_rolls_725 : decode cL_rolls 725 = .ok (.aload 6, 2) := by decide +kernel
theorem dL_rolls_727 : decode cL_rolls 727 = .ok (.iconst 3, 1) := by decide +kernel
theorem dL_rolls_728 : decode cL_rolls 728 = .ok (.aload_n 1, 1) := by decide +kernel
theorem dL_rolls_729 : decode cL_rolls 729 = .ok (.iconst 2, 1) := by decide +kernel
theorem dL_rolls_730 : decode cL_rolls 730 = .ok (.iaload, 1) := by decide +kernel
theorem dL_rolls_731 : decode cL_rolls 731 = .ok (.imul, 1) := by decide +kernel
theorem dL_rolls_732 : decode cL_rolls 732 = .ok (.iconst 2, 1) := by decide +kernel
theorem dL_rolls_733 : decode cL_rolls 733 = .ok (.iadd, 1) := by decide +kernel
theorem dL_rolls_734 : decode cL_rolls 734 = .ok (.iconst 0, 1) := by decide +kernel
theorem dL_rolls_735 : decode cL_rolls 735 = .ok (.iastore, 1) := by decide +kernel
theorem dL_rolls_736 : decode cL_rolls 736 = .ok (.aload_n 1, 1) := by decide +kernel
theorem dL_rolls_737 : decode cL_rolls 737 = .ok (.iconst 2, 1) := by decide +kernel
theorem dL_rolls_738 : decode cL_rolls 738 = .ok (.dup2, 1) := by decide +kernel
theorem dL_rolls_739 : decode cL_rolls 739 = .ok (.iaload, 1) := by decide +kernel
theorem dL_rolls_740 : decode cL_rolls 740 = .ok (.iconst 1, 1) := by decide +kernel
theorem dL_rolls_741 : decode cL_rolls 741 = .ok (.iadd, 1) := by decide +kernel
theorem dL_rolls_742 : decode cL_rolls 742 = .ok (.iastore, 1) := by decide +kernel
theorem dL_rolls_743 : decode cL_rolls 743 = .ok (.aload_n 0, 1) := by decide +kernel
theorem dL_rolls_744 : decode cL_rolls 744 = .ok (.iload 10, 2) := by decide +kernel
theorem dL_rolls_746 : decode cL_rolls 746 = .ok (.invokevirtual 79, 3) := by decide +kernel
theorem dL_rolls_749 : decode cL_rolls 749 = .ok (.aload_n 1, 1) := by decide +kernel
theorem dL_rolls_750 : decode cL_rolls 750 = .ok (.iconst 2, 1) := by decide +kernel
theorem dL_rolls_751 : decode cL_rolls 751 = .ok (.iaload, 1) := by decide +kernel
theorem dL_rolls_752 : decode cL_rolls 752 = .ok (.iconst 1, 1) := by decide +kernel
theorem dL_rolls_753 : decode cL_rolls 753 = .ok (.isub, 1) := by decide +kernel
theorem dL_rolls_754 : decode cL_rolls 754 = .ok (.if_icmp .ne 7, 3) := by decide +kernel
theorem dL_rolls_757 : decode cL_rolls 757 = .ok (.iconst 1, 1) := by decide +kernel
theorem dL_rolls_758 : decode cL_rolls 758 = .ok (.goto 4, 3) := by decide +kernel
theorem dL_rolls_761 : decode cL_rolls 761 = .ok (.iconst 0, 1) := by decide +kernel
theorem dL_rolls_762 : decode cL_rolls 762 = .ok (.ireturn, 1) := by decide +kernel
theorem dL_acts_0 : decode cL_acts 0 = .ok (.iload 7, 2) := by decide +kernel
theorem dL_acts_2 : decode cL_acts 2 = .ok (.iconst 5, 1) := by decide +kernel
theorem dL_acts_3 : decode cL_acts 3 = .ok (.ishr, 1) := by decide +kernel
theorem dL_acts_4 : decode cL_acts 4 = .ok (.ldc 92, 2) := by decide +kernel
theorem dL_acts_6 : decode cL_acts 6 = .ok (.invokestatic 93, 3) := by decide +kernel
theorem dL_acts_9 : decode cL_acts 9 = .ok (.istore 8, 2) := by decide +kernel
theorem dL_acts_11 : decode cL_acts 11 = .ok (.iload 7, 2) := by decide +kernel
