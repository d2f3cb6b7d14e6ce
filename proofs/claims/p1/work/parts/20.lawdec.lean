theorem dl_0 : decode code 0 = .ok (.new 7, 3) := by decide +kernel
theorem dl_3 : decode code 3 = .ok (.dup, 1) := by decide +kernel
theorem dl_4 : decode code 4 = .ok (.invokespecial 9, 3) := by decide +kernel
theorem dl_7 : decode code 7 = .ok (.astore_n 1, 1) := by decide +kernel
theorem dl_8 : decode code 8 = .ok (.new 10, 3) := by decide +kernel
theorem dl_11 : decode code 11 = .ok (.dup, 1) := by decide +kernel
theorem dl_12 : decode code 12 = .ok (.invokespecial 12, 3) := by decide +kernel
theorem dl_15 : decode code 15 = .ok (.astore_n 2, 1) := by decide +kernel
theorem dl_16 : decode code 16 = .ok (.iconst 0, 1) := by decide +kernel
theorem dl_17 : decode code 17 = .ok (.istore_n 3, 1) := by decide +kernel
theorem dl_18 : decode code 18 = .ok (.iload_n 3, 1) := by decide +kernel
theorem dl_19 : decode code 19 = .ok (.aload_n 0, 1) := by decide +kernel
theorem dl_20 : decode code 20 = .ok (.arraylength, 1) := by decide +kernel
theorem dl_21 : decode code 21 = .ok (.bipush 6, 2) := by decide +kernel
theorem dl_23 : decode code 23 = .ok (.isub, 1) := by decide +kernel
theorem dl_24 : decode code 24 = .ok (.if_icmp .gt 1208, 3) := by decide +kernel
theorem dl_27 : decode code 27 = .ok (.aload_n 0, 1) := by decide +kernel
theorem dl_28 : decode code 28 = .ok (.iload_n 3, 1) := by decide +kernel
theorem dl_29 : decode code 29 = .ok (.iaload, 1) := by decide +kernel
theorem dl_30 : decode code 30 = .ok (.bipush 63, 2) := by decide +kernel
theorem dl_32 : decode code 32 = .ok (.iand, 1) := by decide +kernel
theorem dl_33 : decode code 33 = .ok (.tableswitch 1193 0 36 #[163, 226, 249, 262, 301, 324, 347, 380, 429, 478, 527, 560, 593, 616, 649, 672, 705, 718, 741, 790, 803, 836, 849, 898, 911, 960, 999, 1012, 1035, 1058, 1071, 1094, 1107, 1121, 1134, 1157, 1170], 163) := by decide +kernel
theorem dl_196 : decode code 196 = .ok (.aload_n 1, 1) := by decide +kernel
theorem dl_197 : decode code 197 = .ok (.aload_n 0, 1) := by decide +kernel
theorem dl_198 : decode code 198 = .ok (.iload_n 3, 1) := by decide +kernel
theorem dl_199 : decode code 199 = .ok (.iconst 1, 1) := by decide +kernel
theorem dl_200 : decode code 200 = .ok (.iadd, 1) := by decide +kernel
theorem dl_201 : decode code 201 = .ok (.iaload, 1) := by decide +kernel
theorem dl_202 : decode code 202 = .ok (.aload_n 0, 1) := by decide +kernel
theorem dl_203 : decode code 203 = .ok (.iload_n 3, 1) := by decide +kernel
theorem dl_204 : decode code 204 = .ok (.iconst 2, 1) := by decide +kernel
theorem dl_205 : decode code 205 = .ok (.iadd, 1) := by decide +kernel
theorem dl_206 : decode code 206 = .ok (.iaload, 1) := by decide +kernel
theorem dl_207 : decode code 207 = .ok (.aload_n 0, 1) := by decide +kernel
theorem dl_208 : decode code 208 = .ok (.iload_n 3, 1) := by decide +kernel
theorem dl_209 : decode code 209 = .ok (.iconst 3, 1) := by decide +kernel
theorem dl_210 : decode code 210 = .ok (.iadd, 1) := by decide +kernel
theorem dl_211 : decode code 211 = .ok (.iaload, 1) := by decide +kernel
theorem dl_212 : decode code 212 = .ok (.aload_n 0, 1) := by decide +kernel
theorem dl_213 : decode code 213 = .ok (.iload_n 3, 1) := by decide +kernel
theorem dl_214 : decode code 214 = .ok (.iconst 4, 1) := by decide +kernel
theorem dl_215 : decode code 215 = .ok (.iadd, 1) := by decide +kernel
theorem dl_216 : decode code 216 = .ok (.iaload, 1) := by decide +kernel
theorem dl_217 : decode code 217 = .ok (.aload_n 0, 1) := by decide +kernel
theorem dl_218 : decode code 218 = .ok (.iload_n 3, 1) := by decide +kernel
theorem dl_219 : decode code 219 = .ok (.iconst 5, 1) := by decide +kernel
theorem dl_220 : decode code 220 = .ok (.iadd, 1) := by decide +kernel
theorem dl_221 : decode code 221 = .ok (.iaload, 1) := by decide +kernel
theorem dl_222 : decode code 222 = .ok (.invokevirtual 13, 3) := by decide +kernel
theorem dl_225 : decode code 225 = .ok (.aload_n 2, 1) := by decide +kernel
theorem dl_226 : decode code 226 = .ok (.aload_n 0, 1) := by decide +kernel
theorem dl_227 : decode code 227 = .ok (.iload_n 3, 1) := by decide +kernel
theorem dl_228 : decode code 228 = .ok (.iconst 1, 1) := by decide +kernel
theorem dl_229 : decode code 229 = .ok (.iadd, 1) := by decide +kernel
theorem dl_230 : decode code 230 = .ok (.iaload, 1) := by decide +kernel
theorem dl_231 : decode code 231 = .ok (.aload_n 0, 1) := by decide +kernel
theorem dl_232 : decode code 232 = .ok (.iload_n 3, 1) := by decide +kernel
theorem dl_233 : decode code 233 = .ok (.iconst 2, 1) := by decide +kernel
theorem dl_234 : decode code 234 = .ok (.iadd, 1) := by decide +kernel
theorem dl_235 : decode code 235 = .ok (.iaload, 1) := by decide +kernel
theorem dl_236 : decode code 236 = .ok (.aload_n 0, 1) := by decide +kernel
theorem dl_237 : decode code 237 = .ok (.iload_n 3, 1) := by decide +kernel
theorem dl_238 : decode code 238 = .ok (.iconst 3, 1) := by decide +kernel
theorem dl_239 : decode code 239 = .ok (.iadd, 1) := by decide +kernel
theorem dl_240 : decode code 240 = .ok (.iaload, 1) := by decide +kernel
theorem dl_241 : decode code 241 = .ok (.aload_n 0, 1) := by decide +kernel
theorem dl_242 : decode code 242 = .ok (.iload_n 3, 1) := by decide +kernel
theorem dl_243 : decode code 243 = .ok (.iconst 4, 1) := by decide +kernel
theorem dl_244 : decode code 244 = .ok (.iadd, 1) := by decide +kernel
theorem dl_245 : decode code 245 = .ok (.iaload, 1) := by decide +kernel
theorem dl_246 : decode code 246 = .ok (.aload_n 0, 1) := by decide +kernel
theorem dl_247 : decode code 247 = .ok (.iload_n 3, 1) := by decide +kernel
theorem dl_248 : decode code 248 = .ok (.iconst 5, 1) := by decide +kernel
theorem dl_249 : decode code 249 = .ok (.iadd, 1) := by decide +kernel
theorem dl_250 : decode code 250 = .ok (.iaload, 1) := by decide +kernel
theorem dl_251 : decode code 251 = .ok (.invokevirtual 17, 3) := by decide +kernel
theorem dl_254 : decode code 254 = .ok (.if_icmp .eq 972, 3) := by decide +kernel
theorem dl_259 : decode code 259 = .ok (.aload_n 1, 1) := by decide +kernel
theorem dl_260 : decode code 260 = .ok (.aload_n 0, 1) := by decide +kernel
theorem dl_261 : decode code 261 = .ok (.iload_n 3, 1) := by decide +kernel
theorem dl_262 : decode code 262 = .ok (.iconst 1, 1) := by decide +kernel
theorem dl_263 : decode code 263 = .ok (.iadd, 1) := by decide +kernel
theorem dl_264 : decode code 264 = .ok (.iaload, 1) := by decide +kernel
theorem dl_265 : decode code 265 = .ok (.invokevirtual 18, 3) := by decide +kernel
theorem dl_268 : decode code 268 = .ok (.aload_n 2, 1) := by decide +kernel
theorem dl_269 : decode code 269 = .ok (.aload_n 0, 1) := by decide +kernel
theorem dl_270 : decode code 270 = .ok (.iload_n 3, 1) := by decide +kernel
theorem dl_271 : decode code 271 = .ok (.iconst 1, 1) := by decide +kernel
theorem dl_272 : decode code 272 = .ok (.iadd, 1) := by decide +kernel
theorem dl_273 : decode code 273 = .ok (.iaload, 1) := by decide +kernel
theorem dl_274 : decode code 274 = .ok (.invokevirtual 22, 3) := by decide +kernel
theorem dl_277 : decode code 277 = .ok (.if_icmp .eq 949, 3) := by decide +kernel
theorem dl_282 : decode code 282 = .ok (.aload_n 1, 1) := by decide +kernel
theorem dl_283 : decode code 283 = .ok (.invokevirtual 23, 3) := by decide +kernel
theorem dl_286 : decode code 286 = .ok (.aload_n 2, 1) := by decide +kernel
theorem dl_287 : decode code 287 = .ok (.invokevirtual 27, 3) := by decide +kernel
theorem dl_290 : decode code 290 = .ok (.if_icmp .eq 936, 3) := by decide +kernel
theorem dl_295 : decode code 295 = .ok (.aload_n 1, 1) := by decide +kernel
theorem dl_296 : decode code 296 = .ok (.aload_n 0, 1) := by decide +kernel
theorem dl_297 : decode code 297 = .ok (.iload_n 3, 1) := by decide +kernel
theorem dl_298 : decode code 298 = .ok (.iconst 1, 1) := by decide +kernel
theorem dl_299 : decode code 299 = .ok (.iadd, 1) := by decide +kernel
theorem dl_300 : decode code 300 = .ok (.iaload, 1) := by decide +kernel
theorem dl_301 : decode code 301 = .ok (.ifCond .eq 7, 3) := by decide +kernel
theorem dl_304 : decode code 304 = .ok (.iconst 1, 1) := by decide +kernel
theorem dl_305 : decode code 305 = .ok (.goto 4, 3) := by decide +kernel
theorem dl_308 : decode code 308 = .ok (.iconst 0, 1) := by decide +kernel
theorem dl_309 : decode code 309 = .ok (.invokevirtual 28, 3) := by decide +kernel
theorem dl_312 : decode code 312 = .ok (.aload_n 2, 1) := by decide +kernel
theorem dl_313 : decode code 313 = .ok (.aload_n 0, 1) := by decide +kernel
theorem dl_314 : decode code 314 = .ok (.iload_n 3, 1) := by decide +kernel
theorem dl_315 : decode code 315 = .ok (.iconst 1, 1) := by decide +kernel
theorem dl_316 : decode code 316 = .ok (.iadd, 1) := by decide +kernel
theorem dl_317 : decode code 317 = .ok (.iaload, 1) := by decide +kernel
theorem dl_318 : decode code 318 = .ok (.ifCond .eq 7, 3) := by decide +kernel
theorem dl_321 : decode code 321 = .ok (.iconst 1, 1) := by decide +kernel
theorem dl_322 : decode code 322 = .ok (.goto 4, 3) := by decide +kernel
theorem dl_325 : decode code 325 = .ok (.iconst 0, 1) := by decide +kernel
theorem dl_326 : decode code 326 = .ok (.invokevirtual 32, 3) := by decide +kernel
theorem dl_329 : decode code 329 = .ok (.if_icmp .eq 897, 3) := by decide +kernel
theorem dl_334 : decode code 334 = .ok (.aload_n 1, 1) := by decide +kernel
theorem dl_335 : decode code 335 = .ok (.aload_n 0, 1) := by decide +kernel
theorem dl_336 : decode code 336 = .ok (.iload_n 3, 1) := by decide +kernel
theorem dl_337 : decode code 337 = .ok (.iconst 1, 1) := by decide +kernel
theorem dl_338 : decode code 338 = .ok (.iadd, 1) := by decide +kernel
theorem dl_339 : decode code 339 = .ok (.iaload, 1) := by decide +kernel
theorem dl_340 : decode code 340 = .ok (.invokevirtual 33, 3) := by decide +kernel
theorem dl_343 : decode code 343 = .ok (.aload_n 2, 1) := by decide +kernel
theorem dl_344 : decode code 344 = .ok (.aload_n 0, 1) := by decide +kernel
theorem dl_345 : decode code 345 = .ok (.iload_n 3, 1) := by decide +kernel
theorem dl_346 : decode code 346 = .ok (.iconst 1, 1) := by decide +kernel
theorem dl_347 : decode code 347 = .ok (.iadd, 1) := by decide +kernel
theorem dl_348 : decode code 348 = .ok (.iaload, 1) := by decide +kernel
theorem dl_349 : decode code 349 = .ok (.invokevirtual 37, 3) := by decide +kernel
theorem dl_352 : decode code 352 = .ok (.if_icmp .eq 874, 3) := by decide +kernel
theorem dl_357 : decode code 357 = .ok (.aload_n 1, 1) := by decide +kernel
theorem dl_358 : decode code 358 = .ok (.aload_n 0, 1) := by decide +kernel
theorem dl_359 : decode code 359 = .ok (.iload_n 3, 1) := by decide +kernel
theorem dl_360 : decode code 360 = .ok (.iconst 1, 1) := by decide +kernel
theorem dl_361 : decode code 361 = .ok (.iadd, 1) := by decide +kernel
theorem dl_362 : decode code 362 = .ok (.iaload, 1) := by decide +kernel
theorem dl_363 : decode code 363 = .ok (.invokevirtual 38, 3) := by decide +kernel
theorem dl_366 : decode code 366 = .ok (.aload_n 2, 1) := by decide +kernel
theorem dl_367 : decode code 367 = .ok (.aload_n 0, 1) := by decide +kernel
theorem dl_368 : decode code 368 = .ok (.iload_n 3, 1) := by decide +kernel
theorem dl_369 : decode code 369 = .ok (.iconst 1, 1) := by decide +kernel
theorem dl_370 : decode code 370 = .ok (.iadd, 1) := by decide +kernel
theorem dl_371 : decode code 371 = .ok (.iaload, 1) := by decide +kernel
theorem dl_372 : decode code 372 = .ok (.invokevirtual 41, 3) := by decide +kernel
theorem dl_375 : decode code 375 = .ok (.if_icmp .eq 851, 3) := by decide +kernel
theorem dl_380 : decode code 380 = .ok (.aload_n 1, 1) := by decide +kernel
theorem dl_381 : decode code 381 = .ok (.aload_n 0, 1) := by decide +kernel
theorem dl_382 : decode code 382 = .ok (.iload_n 3, 1) := by decide +kernel
theorem dl_383 : decode code 383 = .ok (.iconst 1, 1) := by decide +kernel
theorem dl_384 : decode code 384 = .ok (.iadd, 1) := by decide +kernel
theorem dl_385 : decode code 385 = .ok (.iaload, 1) := by decide +kernel
theorem dl_386 : decode code 386 = .ok (.aload_n 0, 1) := by decide +kernel
theorem dl_387 : decode code 387 = .ok (.iload_n 3, 1) := by decide +kernel
theorem dl_388 : decode code 388 = .ok (.iconst 2, 1) := by decide +kernel
theorem dl_389 : decode code 389 = .ok (.iadd, 1) := by decide +kernel
theorem dl_390 : decode code 390 = .ok (.iaload, 1) := by decide +kernel
theorem dl_391 : decode code 391 = .ok (.invokevirtual 42, 3) := by decide +kernel
theorem dl_394 : decode code 394 = .ok (.aload_n 2, 1) := by decide +kernel
theorem dl_395 : decode code 395 = .ok (.aload_n 0, 1) := by decide +kernel
theorem dl_396 : decode code 396 = .ok (.iload_n 3, 1) := by decide +kernel
theorem dl_397 : decode code 397 = .ok (.iconst 1, 1) := by decide +kernel
theorem dl_398 : decode code 398 = .ok (.iadd, 1) := by decide +kernel
theorem dl_399 : decode code 399 = .ok (.iaload, 1) := by decide +kernel
theorem dl_400 : decode code 400 = .ok (.aload_n 0, 1) := by decide +kernel
theorem dl_401 : decode code 401 = .ok (.iload_n 3, 1) := by decide +kernel
theorem dl_402 : decode code 402 = .ok (.iconst 2, 1) := by decide +kernel
theorem dl_403 : decode code 403 = .ok (.iadd, 1) := by decide +kernel
theorem dl_404 : decode code 404 = .ok (.iaload, 1) := by decide +kernel
theorem dl_405 : decode code 405 = .ok (.invokevirtual 46, 3) := by decide +kernel
theorem dl_408 : decode code 408 = .ok (.if_icmp .eq 818, 3) := by decide +kernel
theorem dl_413 : decode code 413 = .ok (.aload_n 1, 1) := by decide +kernel
theorem dl_414 : decode code 414 = .ok (.aload_n 0, 1) := by decide +kernel
theorem dl_415 : decode code 415 = .ok (.iload_n 3, 1) := by decide +kernel
theorem dl_416 : decode code 416 = .ok (.iconst 1, 1) := by decide +kernel
theorem dl_417 : decode code 417 = .ok (.iadd, 1) := by decide +kernel
theorem dl_418 : decode code 418 = .ok (.iaload, 1) := by decide +kernel
theorem dl_419 : decode code 419 = .ok (.ifCond .eq 7, 3) := by decide +kernel
theorem dl_422 : decode code 422 = .ok (.iconst 1, 1) := by decide +kernel
theorem dl_423 : decode code 423 = .ok (.goto 4, 3) := by decide +kernel
theorem dl_426 : decode code 426 = .ok (.iconst 0, 1) := by decide +kernel
theorem dl_427 : decode code 427 = .ok (.aload_n 0, 1) := by decide +kernel
theorem dl_428 : decode code 428 = .ok (.iload_n 3, 1) := by decide +kernel
theorem dl_429 : decode code 429 = .ok (.iconst 2, 1) := by decide +kernel
theorem dl_430 : decode code 430 = .ok (.iadd, 1) := by decide +kernel
theorem dl_431 : decode code 431 = .ok (.iaload, 1) := by decide +kernel
theorem dl_432 : decode code 432 = .ok (.invokevirtual 47, 3) := by decide +kernel
theorem dl_435 : decode code 435 = .ok (.aload_n 2, 1) := by decide +kernel
theorem dl_436 : decode code 436 = .ok (.aload_n 0, 1) := by decide +kernel
theorem dl_437 : decode code 437 = .ok (.iload_n 3, 1) := by decide +kernel
theorem dl_438 : decode code 438 = .ok (.iconst 1, 1) := by decide +kernel
theorem dl_439 : decode code 439 = .ok (.iadd, 1) := by decide +kernel
theorem dl_440 : decode code 440 = .ok (.iaload, 1) := by decide +kernel
theorem dl_441 : decode code 441 = .ok (.ifCond .eq 7, 3) := by decide +kernel
theorem dl_444 : decode code 444 = .ok (.iconst 1, 1) := by decide +kernel
theorem dl_445 : decode code 445 = .ok (.goto 4, 3) := by decide +kernel
theorem dl_448 : decode code 448 = .ok (.iconst 0, 1) := by decide +kernel
theorem dl_449 : decode code 449 = .ok (.aload_n 0, 1) := by decide +kernel
theorem dl_450 : decode code 450 = .ok (.iload_n 3, 1) := by decide +kernel
theorem dl_451 : decode code 451 = .ok (.iconst 2, 1) := by decide +kernel
theorem dl_452 : decode code 452 = .ok (.iadd, 1) := by decide +kernel
theorem dl_453 : decode code 453 = .ok (.iaload, 1) := by decide +kernel
theorem dl_454 : decode code 454 = .ok (.invokevirtual 51, 3) := by decide +kernel
theorem dl_457 : decode code 457 = .ok (.if_icmp .eq 769, 3) := by decide +kernel
theorem dl_462 : decode code 462 = .ok (.aload_n 1, 1) := by decide +kernel
theorem dl_463 : decode code 463 = .ok (.aload_n 0, 1) := by decide +kernel
theorem dl_464 : decode code 464 = .ok (.iload_n 3, 1) := by decide +kernel
theorem dl_465 : decode code 465 = .ok (.iconst 1, 1) := by decide +kernel
theorem dl_466 : decode code 466 = .ok (.iadd, 1) := by decide +kernel
theorem dl_467 : decode code 467 = .ok (.iaload, 1) := by decide +kernel
theorem dl_468 : decode code 468 = .ok (.ifCond .eq 7, 3) := by decide +kernel
theorem dl_471 : decode code 471 = .ok (.iconst 1, 1) := by decide +kernel
theorem dl_472 : decode code 472 = .ok (.goto 4, 3) := by decide +kernel
theorem dl_475 : decode code 475 = .ok (.iconst 0, 1) := by decide +kernel
theorem dl_476 : decode code 476 = .ok (.aload_n 0, 1) := by decide +kernel
theorem dl_477 : decode code 477 = .ok (.iload_n 3, 1) := by decide +kernel
theorem dl_478 : decode code 478 = .ok (.iconst 2, 1) := by decide +kernel
theorem dl_479 : decode code 479 = .ok (.iadd, 1) := by decide +kernel
theorem dl_480 : decode code 480 = .ok (.iaload, 1) := by decide +kernel
theorem dl_481 : decode code 481 = .ok (.invokevirtual 52, 3) := by decide +kernel
theorem dl_484 : decode code 484 = .ok (.aload_n 2, 1) := by decide +kernel
theorem dl_485 : decode code 485 = .ok (.aload_n 0, 1) := by decide +kernel
theorem dl_486 : decode code 486 = .ok (.iload_n 3, 1) := by decide +kernel
theorem dl_487 : decode code 487 = .ok (.iconst 1, 1) := by decide +kernel
theorem dl_488 : decode code 488 = .ok (.iadd, 1) := by decide +kernel
theorem dl_489 : decode code 489 = .ok (.iaload, 1) := by decide +kernel
theorem dl_490 : decode code 490 = .ok (.ifCond .eq 7, 3) := by decide +kernel
theorem dl_493 : decode code 493 = .ok (.iconst 1, 1) := by decide +kernel
theorem dl_494 : decode code 494 = .ok (.goto 4, 3) := by decide +kernel
theorem dl_497 : decode code 497 = .ok (.iconst 0, 1) := by decide +kernel
theorem dl_498 : decode code 498 = .ok (.aload_n 0, 1) := by decide +kernel
theorem dl_499 : decode code 499 = .ok (.iload_n 3, 1) := by decide +kernel
theorem dl_500 : decode code 500 = .ok (.iconst 2, 1) := by decide +kernel
theorem dl_501 : decode code 501 = .ok (.iadd, 1) := by decide +kernel
theorem dl_502 : decode code 502 = .ok (.iaload, 1) := by decide +kernel
theorem dl_503 : decode code 503 = .ok (.invokevirtual 55, 3) := by decide +kernel
theorem dl_506 : decode code 506 = .ok (.if_icmp .eq 720, 3) := by decide +kernel
theorem dl_511 : decode code 511 = .ok (.aload_n 1, 1) := by decide +kernel
theorem dl_512 : decode code 512 = .ok (.aload_n 0, 1) := by decide +kernel
theorem dl_513 : decode code 513 = .ok (.iload_n 3, 1) := by decide +kernel
theorem dl_514 : decode code 514 = .ok (.iconst 1, 1) := by decide +kernel
theorem dl_515 : decode code 515 = .ok (.iadd, 1) := by decide +kernel
theorem dl_516 : decode code 516 = .ok (.iaload, 1) := by decide +kernel
theorem dl_517 : decode code 517 = .ok (.ifCond .eq 7, 3) := by decide +kernel
theorem dl_520 : decode code 520 = .ok (.iconst 1, 1) := by decide +kernel
theorem dl_521 : decode code 521 = .ok (.goto 4, 3) := by decide +kernel
theorem dl_524 : decode code 524 = .ok (.iconst 0, 1) := by decide +kernel
theorem dl_525 : decode code 525 = .ok (.aload_n 0, 1) := by decide +kernel
theorem dl_526 : decode code 526 = .ok (.iload_n 3, 1) := by decide +kernel
theorem dl_527 : decode code 527 = .ok (.iconst 2, 1) := by decide +kernel
theorem dl_528 : decode code 528 = .ok (.iadd, 1) := by decide +kernel
theorem dl_529 : decode code 529 = .ok (.iaload, 1) := by decide +kernel
theorem dl_530 : decode code 530 = .ok (.invokevirtual 56, 3) := by decide +kernel
theorem dl_533 : decode code 533 = .ok (.aload_n 2, 1) := by decide +kernel
theorem dl_534 : decode code 534 = .ok (.aload_n 0, 1) := by decide +kernel
theorem dl_535 : decode code 535 = .ok (.iload_n 3, 1) := by decide +kernel
theorem dl_536 : decode code 536 = .ok (.iconst 1, 1) := by decide +kernel
theorem dl_537 : decode code 537 = .ok (.iadd, 1) := by decide +kernel
theorem dl_538 : decode code 538 = .ok (.iaload, 1) := by decide +kernel
theorem dl_539 : decode code 539 = .ok (.ifCond .eq 7, 3) := by decide +kernel
theorem dl_542 : decode code 542 = .ok (.iconst 1, 1) := by decide +kernel
theorem dl_543 : decode code 543 = .ok (.goto 4, 3) := by decide +kernel
theorem dl_546 : decode code 546 = .ok (.iconst 0, 1) := by decide +kernel
theorem dl_547 : decode code 547 = .ok (.aload_n 0, 1) := by decide +kernel
theorem dl_548 : decode code 548 = .ok (.iload_n 3, 1) := by decide +kernel
theorem dl_549 : decode code 549 = .ok (.iconst 2, 1) := by decide +kernel
theorem dl_550 : decode code 550 = .ok (.iadd, 1) := by decide +kernel
theorem dl_551 : decode code 551 = .ok (.iaload, 1) := by decide +kernel
theorem dl_552 : decode code 552 = .ok (.invokevirtual 59, 3) := by decide +kernel
theorem dl_555 : decode code 555 = .ok (.if_icmp .eq 671, 3) := by decide +kernel
theorem dl_560 : decode code 560 = .ok (.aload_n 1, 1) := by decide +kernel
theorem dl_561 : decode code 561 = .ok (.aload_n 0, 1) := by decide +kernel
theorem dl_562 : decode code 562 = .ok (.iload_n 3, 1) := by decide +kernel
theorem dl_563 : decode code 563 = .ok (.iconst 1, 1) := by decide +kernel
theorem dl_564 : decode code 564 = .ok (.iadd, 1) := by decide +kernel
theorem dl_565 : decode code 565 = .ok (.iaload, 1) := by decide +kernel
theorem dl_566 : decode code 566 = .ok (.aload_n 0, 1) := by decide +kernel
theorem dl_567 : decode code 567 = .ok (.iload_n 3, 1) := by decide +kernel
theorem dl_568 : decode code 568 = .ok (.iconst 2, 1) := by decide +kernel
theorem dl_569 : decode code 569 = .ok (.iadd, 1) := by decide +kernel
theorem dl_570 : decode code 570 = .ok (.iaload, 1) := by decide +kernel
theorem dl_571 : decode code 571 = .ok (.invokevirtual 60, 3) := by decide +kernel
theorem dl_574 : decode code 574 = .ok (.aload_n 2, 1) := by decide +kernel
theorem dl_575 : decode code 575 = .ok (.aload_n 0, 1) := by decide +kernel
theorem dl_576 : decode code 576 = .ok (.iload_n 3, 1) := by decide +kernel
theorem dl_577 : decode code 577 = .ok (.iconst 1, 1) := by decide +kernel
theorem dl_578 : decode code 578 = .ok (.iadd, 1) := by decide +kernel
theorem dl_579 : decode code 579 = .ok (.iaload, 1) := by decide +kernel
theorem dl_580 : decode code 580 = .ok (.aload_n 0, 1) := by decide +kernel
theorem dl_581 : decode code 581 = .ok (.iload_n 3, 1) := by decide +kernel
theorem dl_582 : decode code 582 = .ok (.iconst 2, 1) := by decide +kernel
theorem dl_583 : decode code 583 = .ok (.iadd, 1) := by decide +kernel
theorem dl_584 : decode code 584 = .ok (.iaload, 1) := by decide +kernel
theorem dl_585 : decode code 585 = .ok (.invokevirtual 63, 3) := by decide +kernel
theorem dl_588 : decode code 588 = .ok (.if_icmp .eq 638, 3) := by decide +kernel
theorem dl_593 : decode code 593 = .ok (.aload_n 1, 1) := by decide +kernel
theorem dl_594 : decode code 594 = .ok (.aload_n 0, 1) := by decide +kernel
theorem dl_595 : decode code 595 = .ok (.iload_n 3, 1) := by decide +kernel
theorem dl_596 : decode code 596 = .ok (.iconst 1, 1) := by decide +kernel
theorem dl_597 : decode code 597 = .ok (.iadd, 1) := by decide +kernel
theorem dl_598 : decode code 598 = .ok (.iaload, 1) := by decide +kernel
theorem dl_599 : decode code 599 = .ok (.aload_n 0, 1) := by decide +kernel
theorem dl_600 : decode code 600 = .ok (.iload_n 3, 1) := by decide +kernel
theorem dl_601 : decode code 601 = .ok (.iconst 2, 1) := by decide +kernel
theorem dl_602 : decode code 602 = .ok (.iadd, 1) := by decide +kernel
theorem dl_603 : decode code 603 = .ok (.iaload, 1) := by decide +kernel
theorem dl_604 : decode code 604 = .ok (.invokevirtual 64, 3) := by decide +kernel
theorem dl_607 : decode code 607 = .ok (.aload_n 2, 1) := by decide +kernel
theorem dl_608 : decode code 608 = .ok (.aload_n 0, 1) := by decide +kernel
theorem dl_609 : decode code 609 = .ok (.iload_n 3, 1) := by decide +kernel
theorem dl_610 : decode code 610 = .ok (.iconst 1, 1) := by decide +kernel
theorem dl_611 : decode code 611 = .ok (.iadd, 1) := by decide +kernel
theorem dl_612 : decode code 612 = .ok (.iaload, 1) := by decide +kernel
theorem dl_613 : decode code 613 = .ok (.aload_n 0, 1) := by decide +kernel
theorem dl_614 : decode code 614 = .ok (.iload_n 3, 1) := by decide +kernel
theorem dl_615 : decode code 615 = .ok (.iconst 2, 1) := by decide +kernel
theorem dl_616 : decode code 616 = .ok (.iadd, 1) := by decide +kernel
theorem dl_617 : decode code 617 = .ok (.iaload, 1) := by decide +kernel
theorem dl_618 : decode code 618 = .ok (.invokevirtual 67, 3) := by decide +kernel
theorem dl_621 : decode code 621 = .ok (.if_icmp .eq 605, 3) := by decide +kernel
theorem dl_626 : decode code 626 = .ok (.aload_n 1, 1) := by decide +kernel
theorem dl_627 : decode code 627 = .ok (.aload_n 0, 1) := by decide +kernel
theorem dl_628 : decode code 628 = .ok (.iload_n 3, 1) := by decide +kernel
theorem dl_629 : decode code 629 = .ok (.iconst 1, 1) := by decide +kernel
theorem dl_630 : decode code 630 = .ok (.iadd, 1) := by decide +kernel
theorem dl_631 : decode code 631 = .ok (.iaload, 1) := by decide +kernel
theorem dl_632 : decode code 632 = .ok (.invokevirtual 68, 3) := by decide +kernel
theorem dl_635 : decode code 635 = .ok (.aload_n 2, 1) := by decide +kernel
theorem dl_636 : decode code 636 = .ok (.aload_n 0, 1) := by decide +kernel
theorem dl_637 : decode code 637 = .ok (.iload_n 3, 1) := by decide +kernel
theorem dl_638 : decode code 638 = .ok (.iconst 1, 1) := by decide +kernel
theorem dl_639 : decode code 639 = .ok (.iadd, 1) := by decide +kernel
theorem dl_640 : decode code 640 = .ok (.iaload, 1) := by decide +kernel
theorem dl_641 : decode code 641 = .ok (.invokevirtual 71, 3) := by decide +kernel
theorem dl_644 : decode code 644 = .ok (.if_icmp .eq 582, 3) := by decide +kernel
theorem dl_649 : decode code 649 = .ok (.aload_n 1, 1) := by decide +kernel
theorem dl_650 : decode code 650 = .ok (.aload_n 0, 1) := by decide +kernel
theorem dl_651 : decode code 651 = .ok (.iload_n 3, 1) := by decide +kernel
theorem dl_652 : decode code 652 = .ok (.iconst 1, 1) := by decide +kernel
theorem dl_653 : decode code 653 = .ok (.iadd, 1) := by decide +kernel
theorem dl_654 : decode code 654 = .ok (.iaload, 1) := by decide +kernel
theorem dl_655 : decode code 655 = .ok (.aload_n 0, 1) := by decide +kernel
theorem dl_656 : decode code 656 = .ok (.iload_n 3, 1) := by decide +kernel
theorem dl_657 : decode code 657 = .ok (.iconst 2, 1) := by decide +kernel
theorem dl_658 : decode code 658 = .ok (.iadd, 1) := by decide +kernel
theorem dl_659 : decode code 659 = .ok (.iaload, 1) := by decide +kernel
theorem dl_660 : decode code 660 = .ok (.invokevirtual 72, 3) := by decide +kernel
theorem dl_663 : decode code 663 = .ok (.aload_n 2, 1) := by decide +kernel
theorem dl_664 : decode code 664 = .ok (.aload_n 0, 1) := by decide +kernel
theorem dl_665 : decode code 665 = .ok (.iload_n 3, 1) := by decide +kernel
theorem dl_666 : decode code 666 = .ok (.iconst 1, 1) := by decide +kernel
theorem dl_667 : decode code 667 = .ok (.iadd, 1) := by decide +kernel
theorem dl_668 : decode code 668 = .ok (.iaload, 1) := by decide +kernel
theorem dl_669 : decode code 669 = .ok (.aload_n 0, 1) := by decide +kernel
theorem dl_670 : decode code 670 = .ok (.iload_n 3, 1) := by decide +kernel
theorem dl_671 : decode code 671 = .ok (.iconst 2, 1) := by decide +kernel
theorem dl_672 : decode code 672 = .ok (.iadd, 1) := by decide +kernel
theorem dl_673 : decode code 673 = .ok (.iaload, 1) := by decide +kernel
theorem dl_674 : decode code 674 = .ok (.invokevirtual 75, 3) := by decide +kernel
theorem dl_677 : decode code 677 = .ok (.if_icmp .eq 549, 3) := by decide +kernel
theorem dl_682 : decode code 682 = .ok (.aload_n 1, 1) := by decide +kernel
theorem dl_683 : decode code 683 = .ok (.aload_n 0, 1) := by decide +kernel
theorem dl_684 : decode code 684 = .ok (.iload_n 3, 1) := by decide +kernel
theorem dl_685 : decode code 685 = .ok (.iconst 1, 1) := by decide +kernel
theorem dl_686 : decode code 686 = .ok (.iadd, 1) := by decide +kernel
theorem dl_687 : decode code 687 = .ok (.iaload, 1) := by decide +kernel
theorem dl_688 : decode code 688 = .ok (.invokevirtual 76, 3) := by decide +kernel
theorem dl_691 : decode code 691 = .ok (.aload_n 2, 1) := by decide +kernel
theorem dl_692 : decode code 692 = .ok (.aload_n 0, 1) := by decide +kernel
theorem dl_693 : decode code 693 = .ok (.iload_n 3, 1) := by decide +kernel
theorem dl_694 : decode code 694 = .ok (.iconst 1, 1) := by decide +kernel
theorem dl_695 : decode code 695 = .ok (.iadd, 1) := by decide +kernel
theorem dl_696 : decode code 696 = .ok (.iaload, 1) := by decide +kernel
theorem dl_697 : decode code 697 = .ok (.invokevirtual 79, 3) := by decide +kernel
theorem dl_700 : decode code 700 = .ok (.if_icmp .eq 526, 3) := by decide +kernel
theorem dl_705 : decode code 705 = .ok (.aload_n 1, 1) := by decide +kernel
theorem dl_706 : decode code 706 = .ok (.aload_n 0, 1) := by decide +kernel
theorem dl_707 : decode code 707 = .ok (.iload_n 3, 1) := by decide +kernel
theorem dl_708 : decode code 708 = .ok (.iconst 1, 1) := by decide +kernel
theorem dl_709 : decode code 709 = .ok (.iadd, 1) := by decide +kernel
theorem dl_710 : decode code 710 = .ok (.iaload, 1) := by decide +kernel
theorem dl_711 : decode code 711 = .ok (.aload_n 0, 1) := by decide +kernel
theorem dl_712 : decode code 712 = .ok (.iload_n 3, 1) := by decide +kernel
theorem dl_713 : decode code 713 = .ok (.iconst 2, 1) := by decide +kernel
theorem dl_714 : decode code 714 = .ok (.iadd, 1) := by decide +kernel
theorem dl_715 : decode code 715 = .ok (.iaload, 1) := by decide +kernel
theorem dl_716 : decode code 716 = .ok (.invokevirtual 80, 3) := by decide +kernel
theorem dl_719 : decode code 719 = .ok (.aload_n 2, 1) := by decide +kernel
theorem dl_720 : decode code 720 = .ok (.aload_n 0, 1) := by decide +kernel
theorem dl_721 : decode code 721 = .ok (.iload_n 3, 1) := by decide +kernel
theorem dl_722 : decode code 722 = .ok (.iconst 1, 1) := by decide +kernel
theorem dl_723 : decode code 723 = .ok (.iadd, 1) := by decide +kernel
theorem dl_724 : decode code 724 = .ok (.iaload, 1) := by decide +kernel
theorem dl_725 : decode code 725 = .ok (.aload_n 0, 1) := by decide +kernel
theorem dl_726 : decode code 726 = .ok (.iload_n 3, 1) := by decide +kernel
theorem dl_727 : decode code 727 = .ok (.iconst 2, 1) := by decide +kernel
theorem dl_728 : decode code 728 = .ok (.iadd, 1) := by decide +kernel
theorem dl_729 : decode code 729 = .ok (.iaload, 1) := by decide +kernel
theorem dl_730 : decode code 730 = .ok (.invokevirtual 83, 3) := by decide +kernel
theorem dl_733 : decode code 733 = .ok (.if_icmp .eq 493, 3) := by decide +kernel
theorem dl_738 : decode code 738 = .ok (.aload_n 1, 1) := by decide +kernel
theorem dl_739 : decode code 739 = .ok (.invokevirtual 84, 3) := by decide +kernel
theorem dl_742 : decode code 742 = .ok (.aload_n 2, 1) := by decide +kernel
theorem dl_743 : decode code 743 = .ok (.invokevirtual 88, 3) := by decide +kernel
theorem dl_746 : decode code 746 = .ok (.if_icmp .eq 480, 3) := by decide +kernel
theorem dl_751 : decode code 751 = .ok (.aload_n 1, 1) := by decide +kernel
theorem dl_752 : decode code 752 = .ok (.aload_n 0, 1) := by decide +kernel
theorem dl_753 : decode code 753 = .ok (.iload_n 3, 1) := by decide +kernel
theorem dl_754 : decode code 754 = .ok (.iconst 1, 1) := by decide +kernel
theorem dl_755 : decode code 755 = .ok (.iadd, 1) := by decide +kernel
theorem dl_756 : decode code 756 = .ok (.iaload, 1) := by decide +kernel
theorem dl_757 : decode code 757 = .ok (.invokevirtual 89, 3) := by decide +kernel
theorem dl_760 : decode code 760 = .ok (.aload_n 2, 1) := by decide +kernel
theorem dl_761 : decode code 761 = .ok (.aload_n 0, 1) := by decide +kernel
theorem dl_762 : decode code 762 = .ok (.iload_n 3, 1) := by decide +kernel
theorem dl_763 : decode code 763 = .ok (.iconst 1, 1) := by decide +kernel
theorem dl_764 : decode code 764 = .ok (.iadd, 1) := by decide +kernel
theorem dl_765 : decode code 765 = .ok (.iaload, 1) := by decide +kernel
theorem dl_766 : decode code 766 = .ok (.invokevirtual 92, 3) := by decide +kernel
theorem dl_769 : decode code 769 = .ok (.if_icmp .eq 457, 3) := by decide +kernel
theorem dl_774 : decode code 774 = .ok (.aload_n 1, 1) := by decide +kernel
theorem dl_775 : decode code 775 = .ok (.aload_n 0, 1) := by decide +kernel
theorem dl_776 : decode code 776 = .ok (.iload_n 3, 1) := by decide +kernel
theorem dl_777 : decode code 777 = .ok (.iconst 1, 1) := by decide +kernel
theorem dl_778 : decode code 778 = .ok (.iadd, 1) := by decide +kernel
theorem dl_779 : decode code 779 = .ok (.iaload, 1) := by decide +kernel
theorem dl_780 : decode code 780 = .ok (.ifCond .eq 7, 3) := by decide +kernel
theorem dl_783 : decode code 783 = .ok (.iconst 1, 1) := by decide +kernel
theorem dl_784 : decode code 784 = .ok (.goto 4, 3) := by decide +kernel
theorem dl_787 : decode code 787 = .ok (.iconst 0, 1) := by decide +kernel
theorem dl_788 : decode code 788 = .ok (.aload_n 0, 1) := by decide +kernel
theorem dl_789 : decode code 789 = .ok (.iload_n 3, 1) := by decide +kernel
theorem dl_790 : decode code 790 = .ok (.iconst 2, 1) := by decide +kernel
theorem dl_791 : decode code 791 = .ok (.iadd, 1) := by decide +kernel
theorem dl_792 : decode code 792 = .ok (.iaload, 1) := by decide +kernel
theorem dl_793 : decode code 793 = .ok (.invokevirtual 93, 3) := by decide +kernel
theorem dl_796 : decode code 796 = .ok (.aload_n 2, 1) := by decide +kernel
theorem dl_797 : decode code 797 = .ok (.aload_n 0, 1) := by decide +kernel
theorem dl_798 : decode code 798 = .ok (.iload_n 3, 1) := by decide +kernel
theorem dl_799 : decode code 799 = .ok (.iconst 1, 1) := by decide +kernel
theorem dl_800 : decode code 800 = .ok (.iadd, 1) := by decide +kernel
theorem dl_801 : decode code 801 = .ok (.iaload, 1) := by decide +kernel
theorem dl_802 : decode code 802 = .ok (.ifCond .eq 7, 3) := by decide +kernel
theorem dl_805 : decode code 805 = .ok (.iconst 1, 1) := by decide +kernel
theorem dl_806 : decode code 806 = .ok (.goto 4, 3) := by decide +kernel
theorem dl_809 : decode code 809 = .ok (.iconst 0, 1) := by decide +kernel
theorem dl_810 : decode code 810 = .ok (.aload_n 0, 1) := by decide +kernel
theorem dl_811 : decode code 811 = .ok (.iload_n 3, 1) := by decide +kernel
theorem dl_812 : decode code 812 = .ok (.iconst 2, 1) := by decide +kernel
theorem dl_813 : decode code 813 = .ok (.iadd, 1) := by decide +kernel
theorem dl_814 : decode code 814 = .ok (.iaload, 1) := by decide +kernel
theorem dl_815 : decode code 815 = .ok (.invokevirtual 96, 3) := by decide +kernel
theorem dl_818 : decode code 818 = .ok (.if_icmp .eq 408, 3) := by decide +kernel
theorem dl_823 : decode code 823 = .ok (.aload_n 1, 1) := by decide +kernel
theorem dl_824 : decode code 824 = .ok (.invokevirtual 97, 3) := by decide +kernel
theorem dl_827 : decode code 827 = .ok (.aload_n 2, 1) := by decide +kernel
theorem dl_828 : decode code 828 = .ok (.invokevirtual 100, 3) := by decide +kernel
theorem dl_831 : decode code 831 = .ok (.if_icmp .eq 395, 3) := by decide +kernel
theorem dl_836 : decode code 836 = .ok (.aload_n 1, 1) := by decide +kernel
theorem dl_837 : decode code 837 = .ok (.aload_n 0, 1) := by decide +kernel
theorem dl_838 : decode code 838 = .ok (.iload_n 3, 1) := by decide +kernel
theorem dl_839 : decode code 839 = .ok (.iconst 1, 1) := by decide +kernel
theorem dl_840 : decode code 840 = .ok (.iadd, 1) := by decide +kernel
theorem dl_841 : decode code 841 = .ok (.iaload, 1) := by decide +kernel
theorem dl_842 : decode code 842 = .ok (.aload_n 0, 1) := by decide +kernel
theorem dl_843 : decode code 843 = .ok (.iload_n 3, 1) := by decide +kernel
theorem dl_844 : decode code 844 = .ok (.iconst 2, 1) := by decide +kernel
theorem dl_845 : decode code 845 = .ok (.iadd, 1) := by decide +kernel
theorem dl_846 : decode code 846 = .ok (.iaload, 1) := by decide +kernel
theorem dl_847 : decode code 847 = .ok (.invokevirtual 101, 3) := by decide +kernel
theorem dl_850 : decode code 850 = .ok (.aload_n 2, 1) := by decide +kernel
theorem dl_851 : decode code 851 = .ok (.aload_n 0, 1) := by decide +kernel
theorem dl_852 : decode code 852 = .ok (.iload_n 3, 1) := by decide +kernel
theorem dl_853 : decode code 853 = .ok (.iconst 1, 1) := by decide +kernel
theorem dl_854 : decode code 854 = .ok (.iadd, 1) := by decide +kernel
theorem dl_855 : decode code 855 = .ok (.iaload, 1) := by decide +kernel
theorem dl_856 : decode code 856 = .ok (.aload_n 0, 1) := by decide +kernel
theorem dl_857 : decode code 857 = .ok (.iload_n 3, 1) := by decide +kernel
theorem dl_858 : decode code 858 = .ok (.iconst 2, 1) := by decide +kernel
theorem dl_859 : decode code 859 = .ok (.iadd, 1) := by decide +kernel
theorem dl_860 : decode code 860 = .ok (.iaload, 1) := by decide +kernel
theorem dl_861 : decode code 861 = .ok (.invokevirtual 104, 3) := by decide +kernel
theorem dl_864 : decode code 864 = .ok (.if_icmp .eq 362, 3) := by decide +kernel
theorem dl_869 : decode code 869 = .ok (.aload_n 1, 1) := by decide +kernel
theorem dl_870 : decode code 870 = .ok (.invokevirtual 105, 3) := by decide +kernel
theorem dl_873 : decode code 873 = .ok (.aload_n 2, 1) := by decide +kernel
theorem dl_874 : decode code 874 = .ok (.invokevirtual 108, 3) := by decide +kernel
theorem dl_877 : decode code 877 = .ok (.if_icmp .eq 349, 3) := by decide +kernel
theorem dl_882 : decode code 882 = .ok (.aload_n 1, 1) := by decide +kernel
theorem dl_883 : decode code 883 = .ok (.aload_n 0, 1) := by decide +kernel
theorem dl_884 : decode code 884 = .ok (.iload_n 3, 1) := by decide +kernel
theorem dl_885 : decode code 885 = .ok (.iconst 1, 1) := by decide +kernel
theorem dl_886 : decode code 886 = .ok (.iadd, 1) := by decide +kernel
theorem dl_887 : decode code 887 = .ok (.iaload, 1) := by decide +kernel
theorem dl_888 : decode code 888 = .ok (.ifCond .eq 7, 3) := by decide +kernel
theorem dl_891 : decode code 891 = .ok (.iconst 1, 1) := by decide +kernel
theorem dl_892 : decode code 892 = .ok (.goto 4, 3) := by decide +kernel
theorem dl_895 : decode code 895 = .ok (.iconst 0, 1) := by decide +kernel
theorem dl_896 : decode code 896 = .ok (.aload_n 0, 1) := by decide +kernel
theorem dl_897 : decode code 897 = .ok (.iload_n 3, 1) := by decide +kernel
theorem dl_898 : decode code 898 = .ok (.iconst 2, 1) := by decide +kernel
theorem dl_899 : decode code 899 = .ok (.iadd, 1) := by decide +kernel
theorem dl_900 : decode code 900 = .ok (.iaload, 1) := by decide +kernel
theorem dl_901 : decode code 901 = .ok (.invokevirtual 109, 3) := by decide +kernel
theorem dl_904 : decode code 904 = .ok (.aload_n 2, 1) := by decide +kernel
theorem dl_905 : decode code 905 = .ok (.aload_n 0, 1) := by decide +kernel
theorem dl_906 : decode code 906 = .ok (.iload_n 3, 1) := by decide +kernel
theorem dl_907 : decode code 907 = .ok (.iconst 1, 1) := by decide +kernel
theorem dl_908 : decode code 908 = .ok (.iadd, 1) := by decide +kernel
theorem dl_909 : decode code 909 = .ok (.iaload, 1) := by decide +kernel
theorem dl_910 : decode code 910 = .ok (.ifCond .eq 7, 3) := by decide +kernel
theorem dl_913 : decode code 913 = .ok (.iconst 1, 1) := by decide +kernel
theorem dl_914 : decode code 914 = .ok (.goto 4, 3) := by decide +kernel
theorem dl_917 : decode code 917 = .ok (.iconst 0, 1) := by decide +kernel
theorem dl_918 : decode code 918 = .ok (.aload_n 0, 1) := by decide +kernel
theorem dl_919 : decode code 919 = .ok (.iload_n 3, 1) := by decide +kernel
theorem dl_920 : decode code 920 = .ok (.iconst 2, 1) := by decide +kernel
theorem dl_921 : decode code 921 = .ok (.iadd, 1) := by decide +kernel
theorem dl_922 : decode code 922 = .ok (.iaload, 1) := by decide +kernel
theorem dl_923 : decode code 923 = .ok (.invokevirtual 112, 3) := by decide +kernel
theorem dl_926 : decode code 926 = .ok (.if_icmp .eq 300, 3) := by decide +kernel
theorem dl_931 : decode code 931 = .ok (.aload_n 1, 1) := by decide +kernel
theorem dl_932 : decode code 932 = .ok (.invokevirtual 113, 3) := by decide +kernel
theorem dl_935 : decode code 935 = .ok (.aload_n 2, 1) := by decide +kernel
theorem dl_936 : decode code 936 = .ok (.invokevirtual 116, 3) := by decide +kernel
theorem dl_939 : decode code 939 = .ok (.if_icmp .eq 287, 3) := by decide +kernel
theorem dl_944 : decode code 944 = .ok (.aload_n 1, 1) := by decide +kernel
theorem dl_945 : decode code 945 = .ok (.aload_n 0, 1) := by decide +kernel
theorem dl_946 : decode code 946 = .ok (.iload_n 3, 1) := by decide +kernel
theorem dl_947 : decode code 947 = .ok (.iconst 1, 1) := by decide +kernel
theorem dl_948 : decode code 948 = .ok (.iadd, 1) := by decide +kernel
theorem dl_949 : decode code 949 = .ok (.iaload, 1) := by decide +kernel
theorem dl_950 : decode code 950 = .ok (.ifCond .eq 7, 3) := by decide +kernel
theorem dl_953 : decode code 953 = .ok (.iconst 1, 1) := by decide +kernel
theorem dl_954 : decode code 954 = .ok (.goto 4, 3) := by decide +kernel
theorem dl_957 : decode code 957 = .ok (.iconst 0, 1) := by decide +kernel
theorem dl_958 : decode code 958 = .ok (.aload_n 0, 1) := by decide +kernel
theorem dl_959 : decode code 959 = .ok (.iload_n 3, 1) := by decide +kernel
theorem dl_960 : decode code 960 = .ok (.iconst 2, 1) := by decide +kernel
theorem dl_961 : decode code 961 = .ok (.iadd, 1) := by decide +kernel
theorem dl_962 : decode code 962 = .ok (.iaload, 1) := by decide +kernel
theorem dl_963 : decode code 963 = .ok (.invokevirtual 117, 3) := by decide +kernel
theorem dl_966 : decode code 966 = .ok (.aload_n 2, 1) := by decide +kernel
theorem dl_967 : decode code 967 = .ok (.aload_n 0, 1) := by decide +kernel
theorem dl_968 : decode code 968 = .ok (.iload_n 3, 1) := by decide +kernel
theorem dl_969 : decode code 969 = .ok (.iconst 1, 1) := by decide +kernel
theorem dl_970 : decode code 970 = .ok (.iadd, 1) := by decide +kernel
theorem dl_971 : decode code 971 = .ok (.iaload, 1) := by decide +kernel
theorem dl_972 : decode code 972 = .ok (.ifCond .eq 7, 3) := by decide +kernel
theorem dl_975 : decode code 975 = .ok (.iconst 1, 1) := by decide +kernel
theorem dl_976 : decode code 976 = .ok (.goto 4, 3) := by decide +kernel
theorem dl_979 : decode code 979 = .ok (.iconst 0, 1) := by decide +kernel
theorem dl_980 : decode code 980 = .ok (.aload_n 0, 1) := by decide +kernel
theorem dl_981 : decode code 981 = .ok (.iload_n 3, 1) := by decide +kernel
theorem dl_982 : decode code 982 = .ok (.iconst 2, 1) := by decide +kernel
theorem dl_983 : decode code 983 = .ok (.iadd, 1) := by decide +kernel
theorem dl_984 : decode code 984 = .ok (.iaload, 1) := by decide +kernel
theorem dl_985 : decode code 985 = .ok (.invokevirtual 120, 3) := by decide +kernel
theorem dl_988 : decode code 988 = .ok (.if_icmp .eq 238, 3) := by decide +kernel
theorem dl_993 : decode code 993 = .ok (.aload_n 1, 1) := by decide +kernel
theorem dl_994 : decode code 994 = .ok (.aload_n 0, 1) := by decide +kernel
theorem dl_995 : decode code 995 = .ok (.iload_n 3, 1) := by decide +kernel
theorem dl_996 : decode code 996 = .ok (.iconst 1, 1) := by decide +kernel
theorem dl_997 : decode code 997 = .ok (.iadd, 1) := by decide +kernel
theorem dl_998 : decode code 998 = .ok (.iaload, 1) := by decide +kernel
theorem dl_999 : decode code 999 = .ok (.ifCond .eq 7, 3) := by decide +kernel
theorem dl_1002 : decode code 1002 = .ok (.iconst 1, 1) := by decide +kernel
theorem dl_1003 : decode code 1003 = .ok (.goto 4, 3) := by decide +kernel
theorem dl_1006 : decode code 1006 = .ok (.iconst 0, 1) := by decide +kernel
theorem dl_1007 : decode code 1007 = .ok (.invokevirtual 121, 3) := by decide +kernel
theorem dl_1010 : decode code 1010 = .ok (.aload_n 2, 1) := by decide +kernel
theorem dl_1011 : decode code 1011 = .ok (.aload_n 0, 1) := by decide +kernel
theorem dl_1012 : decode code 1012 = .ok (.iload_n 3, 1) := by decide +kernel
theorem dl_1013 : decode code 1013 = .ok (.iconst 1, 1) := by decide +kernel
theorem dl_1014 : decode code 1014 = .ok (.iadd, 1) := by decide +kernel
theorem dl_1015 : decode code 1015 = .ok (.iaload, 1) := by decide +kernel
theorem dl_1016 : decode code 1016 = .ok (.ifCond .eq 7, 3) := by decide +kernel
theorem dl_1019 : decode code 1019 = .ok (.iconst 1, 1) := by decide +kernel
theorem dl_1020 : decode code 1020 = .ok (.goto 4, 3) := by decide +kernel
theorem dl_1023 : decode code 1023 = .ok (.iconst 0, 1) := by decide +kernel
theorem dl_1024 : decode code 1024 = .ok (.invokevirtual 124, 3) := by decide +kernel
theorem dl_1027 : decode code 1027 = .ok (.if_icmp .eq 199, 3) := by decide +kernel
theorem dl_1032 : decode code 1032 = .ok (.aload_n 1, 1) := by decide +kernel
theorem dl_1033 : decode code 1033 = .ok (.invokevirtual 125, 3) := by decide +kernel
theorem dl_1036 : decode code 1036 = .ok (.aload_n 2, 1) := by decide +kernel
theorem dl_1037 : decode code 1037 = .ok (.invokevirtual 128, 3) := by decide +kernel
theorem dl_1040 : decode code 1040 = .ok (.if_icmp .eq 186, 3) := by decide +kernel
theorem dl_1045 : decode code 1045 = .ok (.aload_n 1, 1) := by decide +kernel
theorem dl_1046 : decode code 1046 = .ok (.aload_n 0, 1) := by decide +kernel
theorem dl_1047 : decode code 1047 = .ok (.iload_n 3, 1) := by decide +kernel
theorem dl_1048 : decode code 1048 = .ok (.iconst 1, 1) := by decide +kernel
theorem dl_1049 : decode code 1049 = .ok (.iadd, 1) := by decide +kernel
theorem dl_1050 : decode code 1050 = .ok (.iaload, 1) := by decide +kernel
theorem dl_1051 : decode code 1051 = .ok (.invokevirtual 129, 3) := by decide +kernel
theorem dl_1054 : decode code 1054 = .ok (.aload_n 2, 1) := by decide +kernel
theorem dl_1055 : decode code 1055 = .ok (.aload_n 0, 1) := by decide +kernel
theorem dl_1056 : decode code 1056 = .ok (.iload_n 3, 1) := by decide +kernel
theorem dl_1057 : decode code 1057 = .ok (.iconst 1, 1) := by decide +kernel
theorem dl_1058 : decode code 1058 = .ok (.iadd, 1) := by decide +kernel
theorem dl_1059 : decode code 1059 = .ok (.iaload, 1) := by decide +kernel
theorem dl_1060 : decode code 1060 = .ok (.invokevirtual 132, 3) := by decide +kernel
theorem dl_1063 : decode code 1063 = .ok (.if_icmp .eq 163, 3) := by decide +kernel
theorem dl_1068 : decode code 1068 = .ok (.aload_n 1, 1) := by decide +kernel
theorem dl_1069 : decode code 1069 = .ok (.aload_n 0, 1) := by decide +kernel
theorem dl_1070 : decode code 1070 = .ok (.iload_n 3, 1) := by decide +kernel
theorem dl_1071 : decode code 1071 = .ok (.iconst 1, 1) := by decide +kernel
theorem dl_1072 : decode code 1072 = .ok (.iadd, 1) := by decide +kernel
theorem dl_1073 : decode code 1073 = .ok (.iaload, 1) := by decide +kernel
theorem dl_1074 : decode code 1074 = .ok (.invokevirtual 133, 3) := by decide +kernel
theorem dl_1077 : decode code 1077 = .ok (.aload_n 2, 1) := by decide +kernel
theorem dl_1078 : decode code 1078 = .ok (.aload_n 0, 1) := by decide +kernel
theorem dl_1079 : decode code 1079 = .ok (.iload_n 3, 1) := by decide +kernel
theorem dl_1080 : decode code 1080 = .ok (.iconst 1, 1) := by decide +kernel
theorem dl_1081 : decode code 1081 = .ok (.iadd, 1) := by decide +kernel
theorem dl_1082 : decode code 1082 = .ok (.iaload, 1) := by decide +kernel
theorem dl_1083 : decode code 1083 = .ok (.invokevirtual 136, 3) := by decide +kernel
theorem dl_1086 : decode code 1086 = .ok (.if_icmp .eq 140, 3) := by decide +kernel
theorem dl_1091 : decode code 1091 = .ok (.aload_n 1, 1) := by decide +kernel
theorem dl_1092 : decode code 1092 = .ok (.invokevirtual 137, 3) := by decide +kernel
theorem dl_1095 : decode code 1095 = .ok (.aload_n 2, 1) := by decide +kernel
theorem dl_1096 : decode code 1096 = .ok (.invokevirtual 140, 3) := by decide +kernel
theorem dl_1099 : decode code 1099 = .ok (.if_icmp .eq 127, 3) := by decide +kernel
theorem dl_1104 : decode code 1104 = .ok (.aload_n 1, 1) := by decide +kernel
theorem dl_1105 : decode code 1105 = .ok (.aload_n 0, 1) := by decide +kernel
theorem dl_1106 : decode code 1106 = .ok (.iload_n 3, 1) := by decide +kernel
theorem dl_1107 : decode code 1107 = .ok (.iconst 1, 1) := by decide +kernel
theorem dl_1108 : decode code 1108 = .ok (.iadd, 1) := by decide +kernel
theorem dl_1109 : decode code 1109 = .ok (.iaload, 1) := by decide +kernel
theorem dl_1110 : decode code 1110 = .ok (.invokevirtual 141, 3) := by decide +kernel
theorem dl_1113 : decode code 1113 = .ok (.aload_n 2, 1) := by decide +kernel
theorem dl_1114 : decode code 1114 = .ok (.aload_n 0, 1) := by decide +kernel
theorem dl_1115 : decode code 1115 = .ok (.iload_n 3, 1) := by decide +kernel
theorem dl_1116 : decode code 1116 = .ok (.iconst 1, 1) := by decide +kernel
theorem dl_1117 : decode code 1117 = .ok (.iadd, 1) := by decide +kernel
theorem dl_1118 : decode code 1118 = .ok (.iaload, 1) := by decide +kernel
theorem dl_1119 : decode code 1119 = .ok (.invokevirtual 144, 3) := by decide +kernel
theorem dl_1122 : decode code 1122 = .ok (.if_icmp .eq 104, 3) := by decide +kernel
theorem dl_1127 : decode code 1127 = .ok (.aload_n 1, 1) := by decide +kernel
theorem dl_1128 : decode code 1128 = .ok (.invokevirtual 145, 3) := by decide +kernel
theorem dl_1131 : decode code 1131 = .ok (.aload_n 2, 1) := by decide +kernel
theorem dl_1132 : decode code 1132 = .ok (.invokevirtual 148, 3) := by decide +kernel
theorem dl_1135 : decode code 1135 = .ok (.if_icmp .eq 91, 3) := by decide +kernel
theorem dl_1140 : decode code 1140 = .ok (.aload_n 1, 1) := by decide +kernel
theorem dl_1141 : decode code 1141 = .ok (.invokevirtual 149, 3) := by decide +kernel
theorem dl_1144 : decode code 1144 = .ok (.aload_n 2, 1) := by decide +kernel
theorem dl_1145 : decode code 1145 = .ok (.invokevirtual 153, 3) := by decide +kernel
theorem dl_1148 : decode code 1148 = .ok (.lcmp, 1) := by decide +kernel
theorem dl_1149 : decode code 1149 = .ok (.ifCond .eq 77, 3) := by decide +kernel
theorem dl_1154 : decode code 1154 = .ok (.aload_n 1, 1) := by decide +kernel
theorem dl_1155 : decode code 1155 = .ok (.invokevirtual 154, 3) := by decide +kernel
theorem dl_1158 : decode code 1158 = .ok (.aload_n 2, 1) := by decide +kernel
theorem dl_1159 : decode code 1159 = .ok (.invokevirtual 157, 3) := by decide +kernel
theorem dl_1162 : decode code 1162 = .ok (.if_icmp .eq 64, 3) := by decide +kernel
theorem dl_1167 : decode code 1167 = .ok (.aload_n 1, 1) := by decide +kernel
theorem dl_1168 : decode code 1168 = .ok (.aload_n 0, 1) := by decide +kernel
theorem dl_1169 : decode code 1169 = .ok (.iload_n 3, 1) := by decide +kernel
theorem dl_1170 : decode code 1170 = .ok (.iconst 1, 1) := by decide +kernel
theorem dl_1171 : decode code 1171 = .ok (.iadd, 1) := by decide +kernel
theorem dl_1172 : decode code 1172 = .ok (.iaload, 1) := by decide +kernel
theorem dl_1173 : decode code 1173 = .ok (.invokevirtual 158, 3) := by decide +kernel
theorem dl_1176 : decode code 1176 = .ok (.aload_n 2, 1) := by decide +kernel
theorem dl_1177 : decode code 1177 = .ok (.aload_n 0, 1) := by decide +kernel
theorem dl_1178 : decode code 1178 = .ok (.iload_n 3, 1) := by decide +kernel
theorem dl_1179 : decode code 1179 = .ok (.iconst 1, 1) := by decide +kernel
theorem dl_1180 : decode code 1180 = .ok (.iadd, 1) := by decide +kernel
theorem dl_1181 : decode code 1181 = .ok (.iaload, 1) := by decide +kernel
theorem dl_1182 : decode code 1182 = .ok (.invokevirtual 161, 3) := by decide +kernel
theorem dl_1185 : decode code 1185 = .ok (.if_icmp .eq 41, 3) := by decide +kernel
theorem dl_1190 : decode code 1190 = .ok (.aload_n 1, 1) := by decide +kernel
theorem dl_1191 : decode code 1191 = .ok (.invokevirtual 162, 3) := by decide +kernel
theorem dl_1194 : decode code 1194 = .ok (.aload_n 2, 1) := by decide +kernel
theorem dl_1195 : decode code 1195 = .ok (.invokevirtual 165, 3) := by decide +kernel
theorem dl_1198 : decode code 1198 = .ok (.if_icmp .eq 28, 3) := by decide +kernel
theorem dl_1203 : decode code 1203 = .ok (.aload_n 1, 1) := by decide +kernel
theorem dl_1204 : decode code 1204 = .ok (.aload_n 0, 1) := by decide +kernel
theorem dl_1205 : decode code 1205 = .ok (.iload_n 3, 1) := by decide +kernel
theorem dl_1206 : decode code 1206 = .ok (.iconst 1, 1) := by decide +kernel
theorem dl_1207 : decode code 1207 = .ok (.iadd, 1) := by decide +kernel
theorem dl_1208 : decode code 1208 = .ok (.iaload, 1) := by decide +kernel
theorem dl_1209 : decode code 1209 = .ok (.invokevirtual 166, 3) := by decide +kernel
theorem dl_1212 : decode code 1212 = .ok (.aload_n 2, 1) := by decide +kernel
theorem dl_1213 : decode code 1213 = .ok (.aload_n 0, 1) := by decide +kernel
theorem dl_1214 : decode code 1214 = .ok (.iload_n 3, 1) := by decide +kernel
theorem dl_1215 : decode code 1215 = .ok (.iconst 1, 1) := by decide +kernel
theorem dl_1216 : decode code 1216 = .ok (.iadd, 1) := by decide +kernel
theorem dl_1217 : decode code 1217 = .ok (.iaload, 1) := by decide +kernel
theorem dl_1218 : decode code 1218 = .ok (.invokevirtual 169, 3) := by decide +kernel
theorem dl_1221 : decode code 1221 = .ok (.if_icmp .eq 5, 3) := by decide +kernel
theorem dl_1226 : decode code 1226 = .ok (.iinc 3 6, 3) := by decide +kernel
theorem dl_1229 : decode code 1229 = .ok (.goto (-1211), 3) := by decide +kernel
theorem dl_1232 : decode code 1232 = .ok (.iconst 1, 1) := by decide +kernel
theorem dl_1233 : decode code 1233 = .ok (.ireturn, 1) := by decide +kernel
