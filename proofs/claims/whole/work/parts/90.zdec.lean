/-! the law's own method: its instructions, and its calls of the helpers -/
theorem dL_law_0 : decode code 0 = .ok (.new 8, 3) := by decide +kernel
theorem dL_law_3 : decode code 3 = .ok (.dup, 1) := by decide +kernel
theorem dL_law_4 : decode code 4 = .ok (.aload_n 0, 1) := by decide +kernel
theorem dL_law_5 : decode code 5 = .ok (.iconst 0, 1) := by decide +kernel
theorem dL_law_6 : decode code 6 = .ok (.invokestatic 69, 3) := by decide +kernel
theorem dL_law_9 : decode code 9 = .ok (.invokespecial 75, 3) := by decide +kernel
theorem dL_law_12 : decode code 12 = .ok (.astore_n 1, 1) := by decide +kernel
theorem dL_law_13 : decode code 13 = .ok (.new 77, 3) := by decide +kernel
theorem dL_law_16 : decode code 16 = .ok (.dup, 1) := by decide +kernel
theorem dL_law_17 : decode code 17 = .ok (.aload_n 0, 1) := by decide +kernel
theorem dL_law_18 : decode code 18 = .ok (.iconst 0, 1) := by decide +kernel
theorem dL_law_19 : decode code 19 = .ok (.invokestatic 69, 3) := by decide +kernel
theorem dL_law_22 : decode code 22 = .ok (.invokespecial 79, 3) := by decide +kernel
theorem dL_law_25 : decode code 25 = .ok (.astore_n 2, 1) := by decide +kernel
theorem dL_law_26 : decode code 26 = .ok (.iconst 1, 1) := by decide +kernel
theorem dL_law_27 : decode code 27 = .ok (.newarray .long, 2) := by decide +kernel
theorem dL_law_29 : decode code 29 = .ok (.astore_n 3, 1) := by decide +kernel
theorem dL_law_30 : decode code 30 = .ok (.iconst 1, 1) := by decide +kernel
theorem dL_law_31 : decode code 31 = .ok (.istore 4, 2) := by decide +kernel
theorem dL_law_33 : decode code 33 = .ok (.iload 4, 2) := by decide +kernel
theorem dL_law_35 : decode code 35 = .ok (.aload_n 0, 1) := by decide +kernel
theorem dL_law_36 : decode code 36 = .ok (.arraylength, 1) := by decide +kernel
theorem dL_law_37 : decode code 37 = .ok (.iconst 4, 1) := by decide +kernel
theorem dL_law_38 : decode code 38 = .ok (.isub, 1) := by decide +kernel
theorem dL_law_39 : decode code 39 = .ok (.if_icmp .gt 989, 3) := by decide +kernel
theorem dL_law_42 : decode code 42 = .ok (.aload_n 0, 1) := by decide +kernel
theorem dL_law_43 : decode code 43 = .ok (.iload 4, 2) := by decide +kernel
theorem dL_law_45 : decode code 45 = .ok (.iaload, 1) := by decide +kernel
theorem dL_law_46 : decode code 46 = .ok (.bipush 31, 2) := by decide +kernel
theorem dL_law_48 : decode code 48 = .ok (.iand, 1) := by decide +kernel
theorem dL_law_49 : decode code 49 = .ok (.tableswitch 973 0 18 #[91, 135, 171, 274, 318, 362, 375, 431, 494, 542, 586, 630, 674, 730, 743, 756, 781, 849, 917], 91) := by decide +kernel
theorem dL_law_140 : decode code 140 = .ok (.aload_n 1, 1) := by decide +kernel
theorem dL_law_141 : decode code 141 = .ok (.aload_n 3, 1) := by decide +kernel
theorem dL_law_142 : decode code 142 = .ok (.invokestatic 80, 3) := by decide +kernel
theorem dL_law_145 : decode code 145 = .ok (.istore 5, 2) := by decide +kernel
theorem dL_law_147 : decode code 147 = .ok (.aload_n 2, 1) := by decide +kernel
theorem dL_law_148 : decode code 148 = .ok (.invokevirtual 83, 3) := by decide +kernel
theorem dL_law_151 : decode code 151 = .ok (.istore 6, 2) := by decide +kernel
theorem dL_law_153 : decode code 153 = .ok (.aload_n 2, 1) := by decide +kernel
theorem dL_law_154 : decode code 154 = .ok (.invokevirtual 84, 3) := by decide +kernel
theorem dL_law_157 : decode code 157 = .ok (.iload 5, 2) := by decide +kernel
theorem dL_law_159 : decode code 159 = .ok (.if_icmp .eq 5, 3) := by decide +kernel
theorem dL_law_162 : decode code 162 = .ok (.iconst 0, 1) := by decide +kernel
theorem dL_law_163 : decode code 163 = .ok (.ireturn, 1) := by decide +kernel
theorem dL_law_164 : decode code 164 = .ok (.iload 5, 2) := by decide +kernel
theorem dL_law_166 : decode code 166 = .ok (.ifCond .ne 15, 3) := by decide +kernel
theorem dL_law_169 : decode code 169 = .ok (.aload_n 3, 1) := by decide +kernel
theorem dL_law_170 : decode code 170 = .ok (.iconst 0, 1) := by decide +kernel
theorem dL_law_171 : decode code 171 = .ok (.laload, 1) := by decide +kernel
theorem dL_law_172 : decode code 172 = .ok (.iload 6, 2) := by decide +kernel
theorem dL_law_174 : decode code 174 = .ok (.i2l, 1) := by decide +kernel
theorem dL_law_175 : decode code 175 = .ok (.lcmp, 1) := by decide +kernel
theorem dL_law_176 : decode code 176 = .ok (.ifCond .eq 5, 3) := by decide +kernel
theorem dL_law_179 : decode code 179 = .ok (.iconst 0, 1) := by decide +kernel
theorem dL_law_180 : decode code 180 = .ok (.ireturn, 1) := by decide +kernel
theorem dL_law_181 : decode code 181 = .ok (.goto 841, 3) := by decide +kernel
theorem dL_law_184 : decode code 184 = .ok (.aload_n 1, 1) := by decide +kernel
theorem dL_law_185 : decode code 185 = .ok (.aload_n 0, 1) := by decide +kernel
theorem dL_law_186 : decode code 186 = .ok (.iload 4, 2) := by decide +kernel
theorem dL_law_188 : decode code 188 = .ok (.iconst 1, 1) := by decide +kernel
theorem dL_law_189 : decode code 189 = .ok (.iadd, 1) := by decide +kernel
theorem dL_law_190 : decode code 190 = .ok (.iaload, 1) := by decide +kernel
theorem dL_law_191 : decode code 191 = .ok (.invokestatic 87, 3) := by decide +kernel
theorem dL_law_194 : decode code 194 = .ok (.istore 5, 2) := by decide +kernel
theorem dL_law_196 : decode code 196 = .ok (.aload_n 2, 1) := by decide +kernel
theorem dL_law_197 : decode code 197 = .ok (.aload_n 0, 1) := by decide +kernel
theorem dL_law_198 : decode code 198 = .ok (.iload 4, 2) := by decide +kernel
theorem dL_law_200 : decode code 200 = .ok (.iconst 1, 1) := by decide +kernel
theorem dL_law_201 : decode code 201 = .ok (.iadd, 1) := by decide +kernel
theorem dL_law_202 : decode code 202 = .ok (.iaload, 1) := by decide +kernel
theorem dL_law_203 : decode code 203 = .ok (.invokevirtual 90, 3) := by decide +kernel
theorem dL_law_206 : decode code 206 = .ok (.aload_n 2, 1) := by decide +kernel
theorem dL_law_207 : decode code 207 = .ok (.invokevirtual 84, 3) := by decide +kernel
theorem dL_law_210 : decode code 210 = .ok (.iload 5, 2) := by decide +kernel
theorem dL_law_212 : decode code 212 = .ok (.if_icmp .eq 5, 3) := by decide +kernel
theorem dL_law_215 : decode code 215 = .ok (.iconst 0, 1) := by decide +kernel
theorem dL_law_216 : decode code 216 = .ok (.ireturn, 1) := by decide +kernel
theorem dL_law_217 : decode code 217 = .ok (.goto 805, 3) := by decide +kernel
theorem dL_law_220 : decode code 220 = .ok (.aload_n 1, 1) := by decide +kernel
theorem dL_law_221 : decode code 221 = .ok (.aload_n 0, 1) := by decide +kernel
theorem dL_law_222 : decode code 222 = .ok (.iload 4, 2) := by decide +kernel
theorem dL_law_224 : decode code 224 = .ok (.iconst 1, 1) := by decide +kernel
theorem dL_law_225 : decode code 225 = .ok (.iadd, 1) := by decide +kernel
theorem dL_law_226 : decode code 226 = .ok (.iaload, 1) := by decide +kernel
theorem dL_law_227 : decode code 227 = .ok (.aload_n 0, 1) := by decide +kernel
theorem dL_law_228 : decode code 228 = .ok (.iload 4, 2) := by decide +kernel
theorem dL_law_230 : decode code 230 = .ok (.iconst 2, 1) := by decide +kernel
theorem dL_law_231 : decode code 231 = .ok (.iadd, 1) := by decide +kernel
theorem dL_law_232 : decode code 232 = .ok (.iaload, 1) := by decide +kernel
theorem dL_law_233 : decode code 233 = .ok (.aload_n 0, 1) := by decide +kernel
theorem dL_law_234 : decode code 234 = .ok (.iload 4, 2) := by decide +kernel
theorem dL_law_236 : decode code 236 = .ok (.iconst 3, 1) := by decide +kernel
theorem dL_law_237 : decode code 237 = .ok (.iadd, 1) := by decide +kernel
theorem dL_law_238 : decode code 238 = .ok (.iaload, 1) := by decide +kernel
theorem dL_law_239 : decode code 239 = .ok (.ifCond .eq 7, 3) := by decide +kernel
theorem dL_law_242 : decode code 242 = .ok (.iconst 1, 1) := by decide +kernel
theorem dL_law_243 : decode code 243 = .ok (.goto 4, 3) := by decide +kernel
theorem dL_law_246 : decode code 246 = .ok (.iconst 0, 1) := by decide +kernel
theorem dL_law_247 : decode code 247 = .ok (.aload_n 3, 1) := by decide +kernel
theorem dL_law_248 : decode code 248 = .ok (.invokestatic 91, 3) := by decide +kernel
theorem dL_law_251 : decode code 251 = .ok (.istore 5, 2) := by decide +kernel
theorem dL_law_253 : decode code 253 = .ok (.aload_n 2, 1) := by decide +kernel
theorem dL_law_254 : decode code 254 = .ok (.aload_n 0, 1) := by decide +kernel
theorem dL_law_255 : decode code 255 = .ok (.iload 4, 2) := by decide +kernel
theorem dL_law_257 : decode code 257 = .ok (.iconst 1, 1) := by decide +kernel
theorem dL_law_258 : decode code 258 = .ok (.iadd, 1) := by decide +kernel
theorem dL_law_259 : decode code 259 = .ok (.iaload, 1) := by decide +kernel
theorem dL_law_260 : decode code 260 = .ok (.aload_n 0, 1) := by decide +kernel
theorem dL_law_261 : decode code 261 = .ok (.iload 4, 2) := by decide +kernel
theorem dL_law_263 : decode code 263 = .ok (.iconst 2, 1) := by decide +kernel
theorem dL_law_264 : decode code 264 = .ok (.iadd, 1) := by decide +kernel
theorem dL_law_265 : decode code 265 = .ok (.iaload, 1) := by decide +kernel
theorem dL_law_266 : decode code 266 = .ok (.aload_n 0, 1) := by decide +kernel
theorem dL_law_267 : decode code 267 = .ok (.iload 4, 2) := by decide +kernel
theorem dL_law_269 : decode code 269 = .ok (.iconst 3, 1) := by decide +kernel
theorem dL_law_270 : decode code 270 = .ok (.iadd, 1) := by decide +kernel
theorem dL_law_271 : decode code 271 = .ok (.iaload, 1) := by decide +kernel
theorem dL_law_272 : decode code 272 = .ok (.ifCond .eq 7, 3) := by decide +kernel
theorem dL_law_275 : decode code 275 = .ok (.iconst 1, 1) := by decide +kernel
theorem dL_law_276 : decode code 276 = .ok (.goto 4, 3) := by decide +kernel
theorem dL_law_279 : decode code 279 = .ok (.iconst 0, 1) := by decide +kernel
theorem dL_law_280 : decode code 280 = .ok (.invokevirtual 94, 3) := by decide +kernel
theorem dL_law_283 : decode code 283 = .ok (.istore 6, 2) := by decide +kernel
theorem dL_law_285 : decode code 285 = .ok (.aload_n 2, 1) := by decide +kernel
theorem dL_law_286 : decode code 286 = .ok (.invokevirtual 84, 3) := by decide +kernel
theorem dL_law_289 : decode code 289 = .ok (.iload 5, 2) := by decide +kernel
theorem dL_law_291 : decode code 291 = .ok (.if_icmp .eq 5, 3) := by decide +kernel
theorem dL_law_294 : decode code 294 = .ok (.iconst 0, 1) := by decide +kernel
theorem dL_law_295 : decode code 295 = .ok (.ireturn, 1) := by decide +kernel
theorem dL_law_296 : decode code 296 = .ok (.iload 5, 2) := by decide +kernel
theorem dL_law_298 : decode code 298 = .ok (.ifCond .ne 22, 3) := by decide +kernel
theorem dL_law_301 : decode code 301 = .ok (.aload_n 3, 1) := by decide +kernel
theorem dL_law_302 : decode code 302 = .ok (.iconst 0, 1) := by decide +kernel
theorem dL_law_303 : decode code 303 = .ok (.laload, 1) := by decide +kernel
theorem dL_law_304 : decode code 304 = .ok (.iload 6, 2) := by decide +kernel
theorem dL_law_306 : decode code 306 = .ok (.ifCond .eq 7, 3) := by decide +kernel
theorem dL_law_309 : decode code 309 = .ok (.lconst 1, 1) := by decide +kernel
theorem dL_law_310 : decode code 310 = .ok (.goto 4, 3) := by decide +kernel
theorem dL_law_313 : decode code 313 = .ok (.lconst 0, 1) := by decide +kernel
theorem dL_law_314 : decode code 314 = .ok (.lcmp, 1) := by decide +kernel
theorem dL_law_315 : decode code 315 = .ok (.ifCond .eq 5, 3) := by decide +kernel
theorem dL_law_318 : decode code 318 = .ok (.iconst 0, 1) := by decide +kernel
theorem dL_law_319 : decode code 319 = .ok (.ireturn, 1) := by decide +kernel
theorem dL_law_320 : decode code 320 = .ok (.goto 702, 3) := by decide +kernel
theorem dL_law_323 : decode code 323 = .ok (.aload_n 1, 1) := by decide +kernel
theorem dL_law_324 : decode code 324 = .ok (.aload_n 3, 1) := by decide +kernel
theorem dL_law_325 : decode code 325 = .ok (.invokestatic 95, 3) := by decide +kernel
theorem dL_law_328 : decode code 328 = .ok (.istore 5, 2) := by decide +kernel
theorem dL_law_330 : decode code 330 = .ok (.aload_n 2, 1) := by decide +kernel
theorem dL_law_331 : decode code 331 = .ok (.invokevirtual 97, 3) := by decide +kernel
theorem dL_law_334 : decode code 334 = .ok (.istore 6, 2) := by decide +kernel
theorem dL_law_336 : decode code 336 = .ok (.aload_n 2, 1) := by decide +kernel
theorem dL_law_337 : decode code 337 = .ok (.invokevirtual 84, 3) := by decide +kernel
theorem dL_law_340 : decode code 340 = .ok (.iload 5, 2) := by decide +kernel
theorem dL_law_342 : decode code 342 = .ok (.if_icmp .eq 5, 3) := by decide +kernel
theorem dL_law_345 : decode code 345 = .ok (.iconst 0, 1) := by decide +kernel
theorem dL_law_346 : decode code 346 = .ok (.ireturn, 1) := by decide +kernel
theorem dL_law_347 : decode code 347 = .ok (.iload 5, 2) := by decide +kernel
theorem dL_law_349 : decode code 349 = .ok (.ifCond .ne 15, 3) := by decide +kernel
theorem dL_law_352 : decode code 352 = .ok (.aload_n 3, 1) := by decide +kernel
theorem dL_law_353 : decode code 353 = .ok (.iconst 0, 1) := by decide +kernel
theorem dL_law_354 : decode code 354 = .ok (.laload, 1) := by decide +kernel
theorem dL_law_355 : decode code 355 = .ok (.iload 6, 2) := by decide +kernel
theorem dL_law_357 : decode code 357 = .ok (.i2l, 1) := by decide +kernel
theorem dL_law_358 : decode code 358 = .ok (.lcmp, 1) := by decide +kernel
theorem dL_law_359 : decode code 359 = .ok (.ifCond .eq 5, 3) := by decide +kernel
theorem dL_law_362 : decode code 362 = .ok (.iconst 0, 1) := by decide +kernel
theorem dL_law_363 : decode code 363 = .ok (.ireturn, 1) := by decide +kernel
theorem dL_law_364 : decode code 364 = .ok (.goto 658, 3) := by decide +kernel
theorem dL_law_367 : decode code 367 = .ok (.aload_n 1, 1) := by decide +kernel
theorem dL_law_368 : decode code 368 = .ok (.aload_n 3, 1) := by decide +kernel
theorem dL_law_369 : decode code 369 = .ok (.invokestatic 98, 3) := by decide +kernel
theorem dL_law_372 : decode code 372 = .ok (.istore 5, 2) := by decide +kernel
theorem dL_law_374 : decode code 374 = .ok (.aload_n 2, 1) := by decide +kernel
theorem dL_law_375 : decode code 375 = .ok (.invokevirtual 100, 3) := by decide +kernel
theorem dL_law_378 : decode code 378 = .ok (.istore 6, 2) := by decide +kernel
theorem dL_law_380 : decode code 380 = .ok (.aload_n 2, 1) := by decide +kernel
theorem dL_law_381 : decode code 381 = .ok (.invokevirtual 84, 3) := by decide +kernel
theorem dL_law_384 : decode code 384 = .ok (.iload 5, 2) := by decide +kernel
theorem dL_law_386 : decode code 386 = .ok (.if_icmp .eq 5, 3) := by decide +kernel
theorem dL_law_389 : decode code 389 = .ok (.iconst 0, 1) := by decide +kernel
theorem dL_law_390 : decode code 390 = .ok (.ireturn, 1) := by decide +kernel
theorem dL_law_391 : decode code 391 = .ok (.iload 5, 2) := by decide +kernel
theorem dL_law_393 : decode code 393 = .ok (.ifCond .ne 15, 3) := by decide +kernel
theorem dL_law_396 : decode code 396 = .ok (.aload_n 3, 1) := by decide +kernel
theorem dL_law_397 : decode code 397 = .ok (.iconst 0, 1) := by decide +kernel
theorem dL_law_398 : decode code 398 = .ok (.laload, 1) := by decide +kernel
theorem dL_law_399 : decode code 399 = .ok (.iload 6, 2) := by decide +kernel
theorem dL_law_401 : decode code 401 = .ok (.i2l, 1) := by decide +kernel
theorem dL_law_402 : decode code 402 = .ok (.lcmp, 1) := by decide +kernel
theorem dL_law_403 : decode code 403 = .ok (.ifCond .eq 5, 3) := by decide +kernel
theorem dL_law_406 : decode code 406 = .ok (.iconst 0, 1) := by decide +kernel
theorem dL_law_407 : decode code 407 = .ok (.ireturn, 1) := by decide +kernel
theorem dL_law_408 : decode code 408 = .ok (.goto 614, 3) := by decide +kernel
theorem dL_law_411 : decode code 411 = .ok (.aload_n 1, 1) := by decide +kernel
theorem dL_law_412 : decode code 412 = .ok (.invokevirtual 101, 3) := by decide +kernel
theorem dL_law_415 : decode code 415 = .ok (.aload_n 2, 1) := by decide +kernel
theorem dL_law_416 : decode code 416 = .ok (.invokevirtual 104, 3) := by decide +kernel
theorem dL_law_419 : decode code 419 = .ok (.if_icmp .eq 603, 3) := by decide +kernel
theorem dL_law_422 : decode code 422 = .ok (.iconst 0, 1) := by decide +kernel
theorem dL_law_423 : decode code 423 = .ok (.ireturn, 1) := by decide +kernel
theorem dL_law_424 : decode code 424 = .ok (.aload_n 1, 1) := by decide +kernel
theorem dL_law_425 : decode code 425 = .ok (.aload_n 0, 1) := by decide +kernel
theorem dL_law_426 : decode code 426 = .ok (.iload 4, 2) := by decide +kernel
theorem dL_law_428 : decode code 428 = .ok (.iconst 1, 1) := by decide +kernel
theorem dL_law_429 : decode code 429 = .ok (.iadd, 1) := by decide +kernel
theorem dL_law_430 : decode code 430 = .ok (.iaload, 1) := by decide +kernel
theorem dL_law_431 : decode code 431 = .ok (.aload_n 3, 1) := by decide +kernel
theorem dL_law_432 : decode code 432 = .ok (.invokestatic 105, 3) := by decide +kernel
theorem dL_law_435 : decode code 435 = .ok (.istore 5, 2) := by decide +kernel
theorem dL_law_437 : decode code 437 = .ok (.aload_n 2, 1) := by decide +kernel
theorem dL_law_438 : decode code 438 = .ok (.aload_n 0, 1) := by decide +kernel
theorem dL_law_439 : decode code 439 = .ok (.iload 4, 2) := by decide +kernel
theorem dL_law_441 : decode code 441 = .ok (.iconst 1, 1) := by decide +kernel
theorem dL_law_442 : decode code 442 = .ok (.iadd, 1) := by decide +kernel
theorem dL_law_443 : decode code 443 = .ok (.iaload, 1) := by decide +kernel
theorem dL_law_444 : decode code 444 = .ok (.invokevirtual 108, 3) := by decide +kernel
theorem dL_law_447 : decode code 447 = .ok (.istore 6, 2) := by decide +kernel
theorem dL_law_449 : decode code 449 = .ok (.aload_n 2, 1) := by decide +kernel
theorem dL_law_450 : decode code 450 = .ok (.invokevirtual 84, 3) := by decide +kernel
theorem dL_law_453 : decode code 453 = .ok (.iload 5, 2) := by decide +kernel
theorem dL_law_455 : decode code 455 = .ok (.if_icmp .eq 5, 3) := by decide +kernel
theorem dL_law_458 : decode code 458 = .ok (.iconst 0, 1) := by decide +kernel
theorem dL_law_459 : decode code 459 = .ok (.ireturn, 1) := by decide +kernel
theorem dL_law_460 : decode code 460 = .ok (.iload 5, 2) := by decide +kernel
theorem dL_law_462 : decode code 462 = .ok (.ifCond .ne 15, 3) := by decide +kernel
theorem dL_law_465 : decode code 465 = .ok (.aload_n 3, 1) := by decide +kernel
theorem dL_law_466 : decode code 466 = .ok (.iconst 0, 1) := by decide +kernel
theorem dL_law_467 : decode code 467 = .ok (.laload, 1) := by decide +kernel
theorem dL_law_468 : decode code 468 = .ok (.iload 6, 2) := by decide +kernel
theorem dL_law_470 : decode code 470 = .ok (.i2l, 1) := by decide +kernel
theorem dL_law_471 : decode code 471 = .ok (.lcmp, 1) := by decide +kernel
theorem dL_law_472 : decode code 472 = .ok (.ifCond .eq 5, 3) := by decide +kernel
theorem dL_law_475 : decode code 475 = .ok (.iconst 0, 1) := by decide +kernel
theorem dL_law_476 : decode code 476 = .ok (.ireturn, 1) := by decide +kernel
theorem dL_law_477 : decode code 477 = .ok (.goto 545, 3) := by decide +kernel
theorem dL_law_480 : decode code 480 = .ok (.aload_n 1, 1) := by decide +kernel
theorem dL_law_481 : decode code 481 = .ok (.aload_n 0, 1) := by decide +kernel
theorem dL_law_482 : decode code 482 = .ok (.iload 4, 2) := by decide +kernel
theorem dL_law_484 : decode code 484 = .ok (.iconst 1, 1) := by decide +kernel
theorem dL_law_485 : decode code 485 = .ok (.iadd, 1) := by decide +kernel
theorem dL_law_486 : decode code 486 = .ok (.iaload, 1) := by decide +kernel
theorem dL_law_487 : decode code 487 = .ok (.aload_n 3, 1) := by decide +kernel
theorem dL_law_488 : decode code 488 = .ok (.invokestatic 109, 3) := by decide +kernel
theorem dL_law_491 : decode code 491 = .ok (.istore 5, 2) := by decide +kernel
theorem dL_law_493 : decode code 493 = .ok (.aload_n 2, 1) := by decide +kernel
theorem dL_law_494 : decode code 494 = .ok (.aload_n 0, 1) := by decide +kernel
theorem dL_law_495 : decode code 495 = .ok (.iload 4, 2) := by decide +kernel
theorem dL_law_497 : decode code 497 = .ok (.iconst 1, 1) := by decide +kernel
theorem dL_law_498 : decode code 498 = .ok (.iadd, 1) := by decide +kernel
theorem dL_law_499 : decode code 499 = .ok (.iaload, 1) := by decide +kernel
theorem dL_law_500 : decode code 500 = .ok (.invokevirtual 111, 3) := by decide +kernel
theorem dL_law_503 : decode code 503 = .ok (.istore 6, 2) := by decide +kernel
theorem dL_law_505 : decode code 505 = .ok (.aload_n 2, 1) := by decide +kernel
theorem dL_law_506 : decode code 506 = .ok (.invokevirtual 84, 3) := by decide +kernel
theorem dL_law_509 : decode code 509 = .ok (.iload 5, 2) := by decide +kernel
theorem dL_law_511 : decode code 511 = .ok (.if_icmp .eq 5, 3) := by decide +kernel
theorem dL_law_514 : decode code 514 = .ok (.iconst 0, 1) := by decide +kernel
theorem dL_law_515 : decode code 515 = .ok (.ireturn, 1) := by decide +kernel
theorem dL_law_516 : decode code 516 = .ok (.iload 5, 2) := by decide +kernel
theorem dL_law_518 : decode code 518 = .ok (.ifCond .ne 22, 3) := by decide +kernel
theorem dL_law_521 : decode code 521 = .ok (.aload_n 3, 1) := by decide +kernel
theorem dL_law_522 : decode code 522 = .ok (.iconst 0, 1) := by decide +kernel
theorem dL_law_523 : decode code 523 = .ok (.laload, 1) := by decide +kernel
theorem dL_law_524 : decode code 524 = .ok (.iload 6, 2) := by decide +kernel
theorem dL_law_526 : decode code 526 = .ok (.ifCond .eq 7, 3) := by decide +kernel
theorem dL_law_529 : decode code 529 = .ok (.lconst 1, 1) := by decide +kernel
theorem dL_law_530 : decode code 530 = .ok (.goto 4, 3) := by decide +kernel
theorem dL_law_533 : decode code 533 = .ok (.lconst 0, 1) := by decide +kernel
theorem dL_law_534 : decode code 534 = .ok (.lcmp, 1) := by decide +kernel
theorem dL_law_535 : decode code 535 = .ok (.ifCond .eq 5, 3) := by decide +kernel
theorem dL_law_538 : decode code 538 = .ok (.iconst 0, 1) := by decide +kernel
theorem dL_law_539 : decode code 539 = .ok (.ireturn, 1) := by decide +kernel
theorem dL_law_540 : decode code 540 = .ok (.goto 482, 3) := by decide +kernel
theorem dL_law_543 : decode code 543 = .ok (.aload_n 1, 1) := by decide +kernel
theorem dL_law_544 : decode code 544 = .ok (.aload_n 0, 1) := by decide +kernel
theorem dL_law_545 : decode code 545 = .ok (.iload 4, 2) := by decide +kernel
theorem dL_law_547 : decode code 547 = .ok (.iconst 1, 1) := by decide +kernel
theorem dL_law_548 : decode code 548 = .ok (.iadd, 1) := by decide +kernel
theorem dL_law_549 : decode code 549 = .ok (.iaload, 1) := by decide +kernel
theorem dL_law_550 : decode code 550 = .ok (.aload_n 0, 1) := by decide +kernel
theorem dL_law_551 : decode code 551 = .ok (.iload 4, 2) := by decide +kernel
theorem dL_law_553 : decode code 553 = .ok (.iconst 2, 1) := by decide +kernel
theorem dL_law_554 : decode code 554 = .ok (.iadd, 1) := by decide +kernel
theorem dL_law_555 : decode code 555 = .ok (.iaload, 1) := by decide +kernel
theorem dL_law_556 : decode code 556 = .ok (.invokestatic 112, 3) := by decide +kernel
theorem dL_law_559 : decode code 559 = .ok (.istore 5, 2) := by decide +kernel
theorem dL_law_561 : decode code 561 = .ok (.aload_n 2, 1) := by decide +kernel
theorem dL_law_562 : decode code 562 = .ok (.aload_n 0, 1) := by decide +kernel
theorem dL_law_563 : decode code 563 = .ok (.iload 4, 2) := by decide +kernel
theorem dL_law_565 : decode code 565 = .ok (.iconst 1, 1) := by decide +kernel
theorem dL_law_566 : decode code 566 = .ok (.iadd, 1) := by decide +kernel
theorem dL_law_567 : decode code 567 = .ok (.iaload, 1) := by decide +kernel
theorem dL_law_568 : decode code 568 = .ok (.aload_n 0, 1) := by decide +kernel
theorem dL_law_569 : decode code 569 = .ok (.iload 4, 2) := by decide +kernel
theorem dL_law_571 : decode code 571 = .ok (.iconst 2, 1) := by decide +kernel
theorem dL_law_572 : decode code 572 = .ok (.iadd, 1) := by decide +kernel
theorem dL_law_573 : decode code 573 = .ok (.iaload, 1) := by decide +kernel
theorem dL_law_574 : decode code 574 = .ok (.invokevirtual 115, 3) := by decide +kernel
theorem dL_law_577 : decode code 577 = .ok (.aload_n 2, 1) := by decide +kernel
theorem dL_law_578 : decode code 578 = .ok (.invokevirtual 84, 3) := by decide +kernel
theorem dL_law_581 : decode code 581 = .ok (.iload 5, 2) := by decide +kernel
theorem dL_law_583 : decode code 583 = .ok (.if_icmp .eq 5, 3) := by decide +kernel
theorem dL_law_586 : decode code 586 = .ok (.iconst 0, 1) := by decide +kernel
theorem dL_law_587 : decode code 587 = .ok (.ireturn, 1) := by decide +kernel
theorem dL_law_588 : decode code 588 = .ok (.goto 434, 3) := by decide +kernel
theorem dL_law_591 : decode code 591 = .ok (.aload_n 1, 1) := by decide +kernel
theorem dL_law_592 : decode code 592 = .ok (.aload_n 3, 1) := by decide +kernel
theorem dL_law_593 : decode code 593 = .ok (.invokestatic 116, 3) := by decide +kernel
theorem dL_law_596 : decode code 596 = .ok (.istore 5, 2) := by decide +kernel
theorem dL_law_598 : decode code 598 = .ok (.aload_n 2, 1) := by decide +kernel
theorem dL_law_599 : decode code 599 = .ok (.invokevirtual 118, 3) := by decide +kernel
theorem dL_law_602 : decode code 602 = .ok (.istore 6, 2) := by decide +kernel
theorem dL_law_604 : decode code 604 = .ok (.aload_n 2, 1) := by decide +kernel
theorem dL_law_605 : decode code 605 = .ok (.invokevirtual 84, 3) := by decide +kernel
theorem dL_law_608 : decode code 608 = .ok (.iload 5, 2) := by decide +kernel
theorem dL_law_610 : decode code 610 = .ok (.if_icmp .eq 5, 3) := by decide +kernel
theorem dL_law_613 : decode code 613 = .ok (.iconst 0, 1) := by decide +kernel
theorem dL_law_614 : decode code 614 = .ok (.ireturn, 1) := by decide +kernel
theorem dL_law_615 : decode code 615 = .ok (.iload 5, 2) := by decide +kernel
theorem dL_law_617 : decode code 617 = .ok (.ifCond .ne 15, 3) := by decide +kernel
theorem dL_law_620 : decode code 620 = .ok (.aload_n 3, 1) := by decide +kernel
theorem dL_law_621 : decode code 621 = .ok (.iconst 0, 1) := by decide +kernel
theorem dL_law_622 : decode code 622 = .ok (.laload, 1) := by decide +kernel
theorem dL_law_623 : decode code 623 = .ok (.iload 6, 2) := by decide +kernel
theorem dL_law_625 : decode code 625 = .ok (.i2l, 1) := by decide +kernel
theorem dL_law_626 : decode code 626 = .ok (.lcmp, 1) := by decide +kernel
theorem dL_law_627 : decode code 627 = .ok (.ifCond .eq 5, 3) := by decide +kernel
theorem dL_law_630 : decode code 630 = .ok (.iconst 0, 1) := by decide +kernel
theorem dL_law_631 : decode code 631 = .ok (.ireturn, 1) := by decide +kernel
theorem dL_law_632 : decode code 632 = .ok (.goto 390, 3) := by decide +kernel
theorem dL_law_635 : decode code 635 = .ok (.aload_n 1, 1) := by decide +kernel
theorem dL_law_636 : decode code 636 = .ok (.aload_n 3, 1) := by decide +kernel
theorem dL_law_637 : decode code 637 = .ok (.invokestatic 119, 3) := by decide +kernel
theorem dL_law_640 : decode code 640 = .ok (.istore 5, 2) := by decide +kernel
theorem dL_law_642 : decode code 642 = .ok (.aload_n 2, 1) := by decide +kernel
theorem dL_law_643 : decode code 643 = .ok (.invokevirtual 121, 3) := by decide +kernel
theorem dL_law_646 : decode code 646 = .ok (.istore 6, 2) := by decide +kernel
theorem dL_law_648 : decode code 648 = .ok (.aload_n 2, 1) := by decide +kernel
theorem dL_law_649 : decode code 649 = .ok (.invokevirtual 84, 3) := by decide +kernel
theorem dL_law_652 : decode code 652 = .ok (.iload 5, 2) := by decide +kernel
theorem dL_law_654 : decode code 654 = .ok (.if_icmp .eq 5, 3) := by decide +kernel
theorem dL_law_657 : decode code 657 = .ok (.iconst 0, 1) := by decide +kernel
theorem dL_law_658 : decode code 658 = .ok (.ireturn, 1) := by decide +kernel
theorem dL_law_659 : decode code 659 = .ok (.iload 5, 2) := by decide +kernel
theorem dL_law_661 : decode code 661 = .ok (.ifCond .ne 15, 3) := by decide +kernel
theorem dL_law_664 : decode code 664 = .ok (.aload_n 3, 1) := by decide +kernel
theorem dL_law_665 : decode code 665 = .ok (.iconst 0, 1) := by decide +kernel
theorem dL_law_666 : decode code 666 = .ok (.laload, 1) := by decide +kernel
theorem dL_law_667 : decode code 667 = .ok (.iload 6, 2) := by decide +kernel
theorem dL_law_669 : decode code 669 = .ok (.i2l, 1) := by decide +kernel
theorem dL_law_670 : decode code 670 = .ok (.lcmp, 1) := by decide +kernel
theorem dL_law_671 : decode code 671 = .ok (.ifCond .eq 5, 3) := by decide +kernel
theorem dL_law_674 : decode code 674 = .ok (.iconst 0, 1) := by decide +kernel
theorem dL_law_675 : decode code 675 = .ok (.ireturn, 1) := by decide +kernel
theorem dL_law_676 : decode code 676 = .ok (.goto 346, 3) := by decide +kernel
theorem dL_law_679 : decode code 679 = .ok (.aload_n 1, 1) := by decide +kernel
theorem dL_law_680 : decode code 680 = .ok (.aload_n 3, 1) := by decide +kernel
theorem dL_law_681 : decode code 681 = .ok (.invokestatic 122, 3) := by decide +kernel
theorem dL_law_684 : decode code 684 = .ok (.istore 5, 2) := by decide +kernel
theorem dL_law_686 : decode code 686 = .ok (.aload_n 2, 1) := by decide +kernel
theorem dL_law_687 : decode code 687 = .ok (.invokevirtual 124, 3) := by decide +kernel
theorem dL_law_690 : decode code 690 = .ok (.istore 6, 2) := by decide +kernel
theorem dL_law_692 : decode code 692 = .ok (.aload_n 2, 1) := by decide +kernel
theorem dL_law_693 : decode code 693 = .ok (.invokevirtual 84, 3) := by decide +kernel
theorem dL_law_696 : decode code 696 = .ok (.iload 5, 2) := by decide +kernel
theorem dL_law_698 : decode code 698 = .ok (.if_icmp .eq 5, 3) := by decide +kernel
theorem dL_law_701 : decode code 701 = .ok (.iconst 0, 1) := by decide +kernel
theorem dL_law_702 : decode code 702 = .ok (.ireturn, 1) := by decide +kernel
theorem dL_law_703 : decode code 703 = .ok (.iload 5, 2) := by decide +kernel
theorem dL_law_705 : decode code 705 = .ok (.ifCond .ne 15, 3) := by decide +kernel
theorem dL_law_708 : decode code 708 = .ok (.aload_n 3, 1) := by decide +kernel
theorem dL_law_709 : decode code 709 = .ok (.iconst 0, 1) := by decide +kernel
theorem dL_law_710 : decode code 710 = .ok (.laload, 1) := by decide +kernel
theorem dL_law_711 : decode code 711 = .ok (.iload 6, 2) := by decide +kernel
theorem dL_law_713 : decode code 713 = .ok (.i2l, 1) := by decide +kernel
theorem dL_law_714 : decode code 714 = .ok (.lcmp, 1) := by decide +kernel
theorem dL_law_715 : decode code 715 = .ok (.ifCond .eq 5, 3) := by decide +kernel
theorem dL_law_718 : decode code 718 = .ok (.iconst 0, 1) := by decide +kernel
theorem dL_law_719 : decode code 719 = .ok (.ireturn, 1) := by decide +kernel
theorem dL_law_720 : decode code 720 = .ok (.goto 302, 3) := by decide +kernel
theorem dL_law_723 : decode code 723 = .ok (.aload_n 1, 1) := by decide +kernel
theorem dL_law_724 : decode code 724 = .ok (.aload_n 0, 1) := by decide +kernel
theorem dL_law_725 : decode code 725 = .ok (.iload 4, 2) := by decide +kernel
theorem dL_law_727 : decode code 727 = .ok (.iconst 1, 1) := by decide +kernel
theorem dL_law_728 : decode code 728 = .ok (.iadd, 1) := by decide +kernel
theorem dL_law_729 : decode code 729 = .ok (.iaload, 1) := by decide +kernel
theorem dL_law_730 : decode code 730 = .ok (.aload_n 3, 1) := by decide +kernel
theorem dL_law_731 : decode code 731 = .ok (.invokestatic 125, 3) := by decide +kernel
theorem dL_law_734 : decode code 734 = .ok (.istore 5, 2) := by decide +kernel
theorem dL_law_736 : decode code 736 = .ok (.aload_n 2, 1) := by decide +kernel
theorem dL_law_737 : decode code 737 = .ok (.aload_n 0, 1) := by decide +kernel
theorem dL_law_738 : decode code 738 = .ok (.iload 4, 2) := by decide +kernel
theorem dL_law_740 : decode code 740 = .ok (.iconst 1, 1) := by decide +kernel
theorem dL_law_741 : decode code 741 = .ok (.iadd, 1) := by decide +kernel
theorem dL_law_742 : decode code 742 = .ok (.iaload, 1) := by decide +kernel
theorem dL_law_743 : decode code 743 = .ok (.invokevirtual 127, 3) := by decide +kernel
theorem dL_law_746 : decode code 746 = .ok (.istore 6, 2) := by decide +kernel
theorem dL_law_748 : decode code 748 = .ok (.aload_n 2, 1) := by decide +kernel
theorem dL_law_749 : decode code 749 = .ok (.invokevirtual 84, 3) := by decide +kernel
theorem dL_law_752 : decode code 752 = .ok (.iload 5, 2) := by decide +kernel
theorem dL_law_754 : decode code 754 = .ok (.if_icmp .eq 5, 3) := by decide +kernel
theorem dL_law_757 : decode code 757 = .ok (.iconst 0, 1) := by decide +kernel
theorem dL_law_758 : decode code 758 = .ok (.ireturn, 1) := by decide +kernel
theorem dL_law_759 : decode code 759 = .ok (.iload 5, 2) := by decide +kernel
theorem dL_law_761 : decode code 761 = .ok (.ifCond .ne 15, 3) := by decide +kernel
theorem dL_law_764 : decode code 764 = .ok (.aload_n 3, 1) := by decide +kernel
theorem dL_law_765 : decode code 765 = .ok (.iconst 0, 1) := by decide +kernel
theorem dL_law_766 : decode code 766 = .ok (.laload, 1) := by decide +kernel
theorem dL_law_767 : decode code 767 = .ok (.iload 6, 2) := by decide +kernel
theorem dL_law_769 : decode code 769 = .ok (.i2l, 1) := by decide +kernel
theorem dL_law_770 : decode code 770 = .ok (.lcmp, 1) := by decide +kernel
theorem dL_law_771 : decode code 771 = .ok (.ifCond .eq 5, 3) := by decide +kernel
theorem dL_law_774 : decode code 774 = .ok (.iconst 0, 1) := by decide +kernel
theorem dL_law_775 : decode code 775 = .ok (.ireturn, 1) := by decide +kernel
theorem dL_law_776 : decode code 776 = .ok (.goto 246, 3) := by decide +kernel
theorem dL_law_779 : decode code 779 = .ok (.aload_n 1, 1) := by decide +kernel
theorem dL_law_780 : decode code 780 = .ok (.invokevirtual 128, 3) := by decide +kernel
theorem dL_law_783 : decode code 783 = .ok (.aload_n 2, 1) := by decide +kernel
theorem dL_law_784 : decode code 784 = .ok (.invokevirtual 131, 3) := by decide +kernel
theorem dL_law_787 : decode code 787 = .ok (.if_icmp .eq 235, 3) := by decide +kernel
theorem dL_law_790 : decode code 790 = .ok (.iconst 0, 1) := by decide +kernel
theorem dL_law_791 : decode code 791 = .ok (.ireturn, 1) := by decide +kernel
theorem dL_law_792 : decode code 792 = .ok (.aload_n 1, 1) := by decide +kernel
theorem dL_law_793 : decode code 793 = .ok (.invokevirtual 132, 3) := by decide +kernel
theorem dL_law_796 : decode code 796 = .ok (.aload_n 2, 1) := by decide +kernel
theorem dL_law_797 : decode code 797 = .ok (.invokevirtual 135, 3) := by decide +kernel
theorem dL_law_800 : decode code 800 = .ok (.if_icmp .eq 222, 3) := by decide +kernel
theorem dL_law_803 : decode code 803 = .ok (.iconst 0, 1) := by decide +kernel
theorem dL_law_804 : decode code 804 = .ok (.ireturn, 1) := by decide +kernel
theorem dL_law_805 : decode code 805 = .ok (.aload_n 1, 1) := by decide +kernel
theorem dL_law_806 : decode code 806 = .ok (.aload_n 0, 1) := by decide +kernel
theorem dL_law_807 : decode code 807 = .ok (.iload 4, 2) := by decide +kernel
theorem dL_law_809 : decode code 809 = .ok (.iconst 1, 1) := by decide +kernel
theorem dL_law_810 : decode code 810 = .ok (.iadd, 1) := by decide +kernel
theorem dL_law_811 : decode code 811 = .ok (.iaload, 1) := by decide +kernel
theorem dL_law_812 : decode code 812 = .ok (.invokevirtual 136, 3) := by decide +kernel
theorem dL_law_815 : decode code 815 = .ok (.aload_n 2, 1) := by decide +kernel
theorem dL_law_816 : decode code 816 = .ok (.aload_n 0, 1) := by decide +kernel
theorem dL_law_817 : decode code 817 = .ok (.iload 4, 2) := by decide +kernel
theorem dL_law_819 : decode code 819 = .ok (.iconst 1, 1) := by decide +kernel
theorem dL_law_820 : decode code 820 = .ok (.iadd, 1) := by decide +kernel
theorem dL_law_821 : decode code 821 = .ok (.iaload, 1) := by decide +kernel
theorem dL_law_822 : decode code 822 = .ok (.invokevirtual 139, 3) := by decide +kernel
theorem dL_law_825 : decode code 825 = .ok (.if_icmp .eq 197, 3) := by decide +kernel
theorem dL_law_828 : decode code 828 = .ok (.iconst 0, 1) := by decide +kernel
theorem dL_law_829 : decode code 829 = .ok (.ireturn, 1) := by decide +kernel
theorem dL_law_830 : decode code 830 = .ok (.aload_n 1, 1) := by decide +kernel
theorem dL_law_831 : decode code 831 = .ok (.aload_n 0, 1) := by decide +kernel
theorem dL_law_832 : decode code 832 = .ok (.iload 4, 2) := by decide +kernel
theorem dL_law_834 : decode code 834 = .ok (.iconst 1, 1) := by decide +kernel
theorem dL_law_835 : decode code 835 = .ok (.iadd, 1) := by decide +kernel
theorem dL_law_836 : decode code 836 = .ok (.iaload, 1) := by decide +kernel
theorem dL_law_837 : decode code 837 = .ok (.aload_n 0, 1) := by decide +kernel
theorem dL_law_838 : decode code 838 = .ok (.iload 4, 2) := by decide +kernel
theorem dL_law_840 : decode code 840 = .ok (.iconst 2, 1) := by decide +kernel
theorem dL_law_841 : decode code 841 = .ok (.iadd, 1) := by decide +kernel
theorem dL_law_842 : decode code 842 = .ok (.iaload, 1) := by decide +kernel
theorem dL_law_843 : decode code 843 = .ok (.aload_n 3, 1) := by decide +kernel
theorem dL_law_844 : decode code 844 = .ok (.invokestatic 140, 3) := by decide +kernel
theorem dL_law_847 : decode code 847 = .ok (.istore 5, 2) := by decide +kernel
theorem dL_law_849 : decode code 849 = .ok (.aload_n 2, 1) := by decide +kernel
theorem dL_law_850 : decode code 850 = .ok (.aload_n 0, 1) := by decide +kernel
theorem dL_law_851 : decode code 851 = .ok (.iload 4, 2) := by decide +kernel
theorem dL_law_853 : decode code 853 = .ok (.iconst 1, 1) := by decide +kernel
theorem dL_law_854 : decode code 854 = .ok (.iadd, 1) := by decide +kernel
theorem dL_law_855 : decode code 855 = .ok (.iaload, 1) := by decide +kernel
theorem dL_law_856 : decode code 856 = .ok (.aload_n 0, 1) := by decide +kernel
theorem dL_law_857 : decode code 857 = .ok (.iload 4, 2) := by decide +kernel
theorem dL_law_859 : decode code 859 = .ok (.iconst 2, 1) := by decide +kernel
theorem dL_law_860 : decode code 860 = .ok (.iadd, 1) := by decide +kernel
theorem dL_law_861 : decode code 861 = .ok (.iaload, 1) := by decide +kernel
theorem dL_law_862 : decode code 862 = .ok (.invokevirtual 143, 3) := by decide +kernel
theorem dL_law_865 : decode code 865 = .ok (.istore 6, 2) := by decide +kernel
theorem dL_law_867 : decode code 867 = .ok (.aload_n 2, 1) := by decide +kernel
theorem dL_law_868 : decode code 868 = .ok (.invokevirtual 84, 3) := by decide +kernel
theorem dL_law_871 : decode code 871 = .ok (.iload 5, 2) := by decide +kernel
theorem dL_law_873 : decode code 873 = .ok (.if_icmp .eq 5, 3) := by decide +kernel
theorem dL_law_876 : decode code 876 = .ok (.iconst 0, 1) := by decide +kernel
theorem dL_law_877 : decode code 877 = .ok (.ireturn, 1) := by decide +kernel
theorem dL_law_878 : decode code 878 = .ok (.iload 5, 2) := by decide +kernel
theorem dL_law_880 : decode code 880 = .ok (.ifCond .ne 15, 3) := by decide +kernel
theorem dL_law_883 : decode code 883 = .ok (.aload_n 3, 1) := by decide +kernel
theorem dL_law_884 : decode code 884 = .ok (.iconst 0, 1) := by decide +kernel
theorem dL_law_885 : decode code 885 = .ok (.laload, 1) := by decide +kernel
theorem dL_law_886 : decode code 886 = .ok (.iload 6, 2) := by decide +kernel
theorem dL_law_888 : decode code 888 = .ok (.i2l, 1) := by decide +kernel
theorem dL_law_889 : decode code 889 = .ok (.lcmp, 1) := by decide +kernel
theorem dL_law_890 : decode code 890 = .ok (.ifCond .eq 5, 3) := by decide +kernel
theorem dL_law_893 : decode code 893 = .ok (.iconst 0, 1) := by decide +kernel
theorem dL_law_894 : decode code 894 = .ok (.ireturn, 1) := by decide +kernel
theorem dL_law_895 : decode code 895 = .ok (.goto 127, 3) := by decide +kernel
theorem dL_law_898 : decode code 898 = .ok (.aload_n 1, 1) := by decide +kernel
theorem dL_law_899 : decode code 899 = .ok (.aload_n 0, 1) := by decide +kernel
theorem dL_law_900 : decode code 900 = .ok (.iload 4, 2) := by decide +kernel
theorem dL_law_902 : decode code 902 = .ok (.iconst 1, 1) := by decide +kernel
theorem dL_law_903 : decode code 903 = .ok (.iadd, 1) := by decide +kernel
theorem dL_law_904 : decode code 904 = .ok (.iaload, 1) := by decide +kernel
theorem dL_law_905 : decode code 905 = .ok (.aload_n 0, 1) := by decide +kernel
theorem dL_law_906 : decode code 906 = .ok (.iload 4, 2) := by decide +kernel
theorem dL_law_908 : decode code 908 = .ok (.iconst 2, 1) := by decide +kernel
theorem dL_law_909 : decode code 909 = .ok (.iadd, 1) := by decide +kernel
theorem dL_law_910 : decode code 910 = .ok (.iaload, 1) := by decide +kernel
theorem dL_law_911 : decode code 911 = .ok (.aload_n 3, 1) := by decide +kernel
theorem dL_law_912 : decode code 912 = .ok (.invokestatic 144, 3) := by decide +kernel
theorem dL_law_915 : decode code 915 = .ok (.istore 5, 2) := by decide +kernel
theorem dL_law_917 : decode code 917 = .ok (.aload_n 2, 1) := by decide +kernel
theorem dL_law_918 : decode code 918 = .ok (.aload_n 0, 1) := by decide +kernel
theorem dL_law_919 : decode code 919 = .ok (.iload 4, 2) := by decide +kernel
theorem dL_law_921 : decode code 921 = .ok (.iconst 1, 1) := by decide +kernel
theorem dL_law_922 : decode code 922 = .ok (.iadd, 1) := by decide +kernel
theorem dL_law_923 : decode code 923 = .ok (.iaload, 1) := by decide +kernel
theorem dL_law_924 : decode code 924 = .ok (.aload_n 0, 1) := by decide +kernel
theorem dL_law_925 : decode code 925 = .ok (.iload 4, 2) := by decide +kernel
theorem dL_law_927 : decode code 927 = .ok (.iconst 2, 1) := by decide +kernel
theorem dL_law_928 : decode code 928 = .ok (.iadd, 1) := by decide +kernel
theorem dL_law_929 : decode code 929 = .ok (.iaload, 1) := by decide +kernel
theorem dL_law_930 : decode code 930 = .ok (.invokevirtual 146, 3) := by decide +kernel
theorem dL_law_933 : decode code 933 = .ok (.istore 6, 2) := by decide +kernel
theorem dL_law_935 : decode code 935 = .ok (.aload_n 2, 1) := by decide +kernel
theorem dL_law_936 : decode code 936 = .ok (.invokevirtual 84, 3) := by decide +kernel
theorem dL_law_939 : decode code 939 = .ok (.iload 5, 2) := by decide +kernel
theorem dL_law_941 : decode code 941 = .ok (.if_icmp .eq 5, 3) := by decide +kernel
theorem dL_law_944 : decode code 944 = .ok (.iconst 0, 1) := by decide +kernel
theorem dL_law_945 : decode code 945 = .ok (.ireturn, 1) := by decide +kernel
theorem dL_law_946 : decode code 946 = .ok (.iload 5, 2) := by decide +kernel
theorem dL_law_948 : decode code 948 = .ok (.ifCond .ne 15, 3) := by decide +kernel
theorem dL_law_951 : decode code 951 = .ok (.aload_n 3, 1) := by decide +kernel
theorem dL_law_952 : decode code 952 = .ok (.iconst 0, 1) := by decide +kernel
theorem dL_law_953 : decode code 953 = .ok (.laload, 1) := by decide +kernel
theorem dL_law_954 : decode code 954 = .ok (.iload 6, 2) := by decide +kernel
theorem dL_law_956 : decode code 956 = .ok (.i2l, 1) := by decide +kernel
theorem dL_law_957 : decode code 957 = .ok (.lcmp, 1) := by decide +kernel
theorem dL_law_958 : decode code 958 = .ok (.ifCond .eq 5, 3) := by decide +kernel
theorem dL_law_961 : decode code 961 = .ok (.iconst 0, 1) := by decide +kernel
theorem dL_law_962 : decode code 962 = .ok (.ireturn, 1) := by decide +kernel
theorem dL_law_963 : decode code 963 = .ok (.goto 59, 3) := by decide +kernel
theorem dL_law_966 : decode code 966 = .ok (.aload_n 1, 1) := by decide +kernel
theorem dL_law_967 : decode code 967 = .ok (.aload_n 0, 1) := by decide +kernel
theorem dL_law_968 : decode code 968 = .ok (.iload 4, 2) := by decide +kernel
theorem dL_law_970 : decode code 970 = .ok (.iconst 1, 1) := by decide +kernel
theorem dL_law_971 : decode code 971 = .ok (.iadd, 1) := by decide +kernel
theorem dL_law_972 : decode code 972 = .ok (.iaload, 1) := by decide +kernel
theorem dL_law_973 : decode code 973 = .ok (.aload_n 3, 1) := by decide +kernel
theorem dL_law_974 : decode code 974 = .ok (.invokestatic 147, 3) := by decide +kernel
theorem dL_law_977 : decode code 977 = .ok (.istore 5, 2) := by decide +kernel
theorem dL_law_979 : decode code 979 = .ok (.aload_n 2, 1) := by decide +kernel
theorem dL_law_980 : decode code 980 = .ok (.aload_n 0, 1) := by decide +kernel
theorem dL_law_981 : decode code 981 = .ok (.iload 4, 2) := by decide +kernel
theorem dL_law_983 : decode code 983 = .ok (.iconst 1, 1) := by decide +kernel
theorem dL_law_984 : decode code 984 = .ok (.iadd, 1) := by decide +kernel
theorem dL_law_985 : decode code 985 = .ok (.iaload, 1) := by decide +kernel
theorem dL_law_986 : decode code 986 = .ok (.invokevirtual 149, 3) := by decide +kernel
theorem dL_law_989 : decode code 989 = .ok (.istore 6, 2) := by decide +kernel
theorem dL_law_991 : decode code 991 = .ok (.aload_n 2, 1) := by decide +kernel
theorem dL_law_992 : decode code 992 = .ok (.invokevirtual 84, 3) := by decide +kernel
theorem dL_law_995 : decode code 995 = .ok (.iload 5, 2) := by decide +kernel
theorem dL_law_997 : decode code 997 = .ok (.if_icmp .eq 5, 3) := by decide +kernel
theorem dL_law_1000 : decode code 1000 = .ok (.iconst 0, 1) := by decide +kernel
theorem dL_law_1001 : decode code 1001 = .ok (.ireturn, 1) := by decide +kernel
theorem dL_law_1002 : decode code 1002 = .ok (.iload 5, 2) := by decide +kernel
theorem dL_law_1004 : decode code 1004 = .ok (.ifCond .ne 15, 3) := by decide +kernel
theorem dL_law_1007 : decode code 1007 = .ok (.aload_n 3, 1) := by decide +kernel
theorem dL_law_1008 : decode code 1008 = .ok (.iconst 0, 1) := by decide +kernel
theorem dL_law_1009 : decode code 1009 = .ok (.laload, 1) := by decide +kernel
theorem dL_law_1010 : decode code 1010 = .ok (.iload 6, 2) := by decide +kernel
theorem dL_law_1012 : decode code 1012 = .ok (.i2l, 1) := by decide +kernel
theorem dL_law_1013 : decode code 1013 = .ok (.lcmp, 1) := by decide +kernel
theorem dL_law_1014 : decode code 1014 = .ok (.ifCond .eq 5, 3) := by decide +kernel
theorem dL_law_1017 : decode code 1017 = .ok (.iconst 0, 1) := by decide +kernel
theorem dL_law_1018 : decode code 1018 = .ok (.ireturn, 1) := by decide +kernel
theorem dL_law_1019 : decode code 1019 = .ok (.goto 3, 3) := by decide +kernel
theorem dL_law_1022 : decode code 1022 = .ok (.iinc 4 4, 3) := by decide +kernel
theorem dL_law_1025 : decode code 1025 = .ok (.goto (-992), 3) := by decide +kernel
theorem dL_law_1028 : decode code 1028 = .ok (.iconst 1, 1) := by decide +kernel
theorem dL_law_1029 : decode code 1029 = .ok (.ireturn, 1) := by decide +kernel
