theorem dl_304 : decode code 304 = .ok (.iconst 1, 1) := by decide +kernel
theorem dl_305 : decode code 305 = .ok (.goto 4, 3) := by decide +kernel
theorem dl_308 : decode code 308 = .ok (.iconst 0, 1) := by decide +kernel
theorem dl_309 : decode code 309 = .ok (.invokevirtual 28, 3) := by decide +kernel
theorem dl_312 : decode code 312 = .ok (.pop, 1) := by decide +kernel
theorem dl_313 : decode code 313 = .ok (.aload_n 2, 1) := by decide +kernel
theorem dl_314 : decode code 314 = .ok (.aload_n 0, 1) := by decide +kernel
theorem dl_315 : decode code 315 = .ok (.iload_n 3, 1) := by decide +kernel
theorem dl_316 : decode code 316 = .ok (.iconst 1, 1) := by decide +kernel
theorem dl_317 : decode code 317 = .ok (.iadd, 1) := by decide +kernel
theorem dl_318 : decode code 318 = .ok (.iaload, 1) := by decide +kernel
theorem dl_319 : decode code 319 = .ok (.ifCond .eq 7, 3) := by decide +kernel
theorem dl_322 : decode code 322 = .ok (.iconst 1, 1) := by decide +kernel
theorem dl_323 : decode code 323 = .ok (.goto 4, 3) := by decide +kernel
theorem dl_326 : decode code 326 = .ok (.iconst 0, 1) := by decide +kernel
theorem dl_327 : decode code 327 = .ok (.invokevirtual 32, 3) := by decide +kernel
theorem dl_330 : decode code 330 = .ok (.pop, 1) := by decide +kernel
theorem dl_331 : decode code 331 = .ok (.goto 894, 3) := by decide +kernel
theorem dl_334 : decode code 334 = .ok (.aload_n 1, 1) := by decide +kernel
theorem dl_335 : decode code 335 = .ok (.aload_n 0, 1) := by decide +kernel
theorem dl_336 : decode code 336 = .ok (.iload_n 3, 1) := by decide +kernel
theorem dl_337 : decode code 337 = .ok (.iconst 1, 1) := by decide +kernel
theorem dl_338 : decode code 338 = .ok (.iadd, 1) := by decide +kernel
theorem dl_339 : decode code 339 = .ok (.iaload, 1) := by decide +kernel
theorem dl_340 : decode code 340 = .ok (.invokevirtual 33, 3) := by decide +kernel
theorem dl_343 : decode code 343 = .ok (.pop, 1) := by decide +kernel
theorem dl_344 : decode code 344 = .ok (.aload_n 2, 1) := by decide +kernel
theorem dl_345 : decode code 345 = .ok (.aload_n 0, 1) := by decide +kernel
theorem dl_346 : decode code 346 = .ok (.iload_n 3, 1) := by decide +kernel
theorem dl_347 : decode code 347 = .ok (.iconst 1, 1) := by decide +kernel
theorem dl_348 : decode code 348 = .ok (.iadd, 1) := by decide +kernel
theorem dl_349 : decode code 349 = .ok (.iaload, 1) := by decide +kernel
theorem dl_350 : decode code 350 = .ok (.invokevirtual 37, 3) := by decide +kernel
theorem dl_353 : decode code 353 = .ok (.pop, 1) := by decide +kernel
theorem dl_354 : decode code 354 = .ok (.goto 871, 3) := by decide +kernel
theorem dl_357 : decode code 357 = .ok (.aload_n 1, 1) := by decide +kernel
theorem dl_358 : decode code 358 = .ok (.aload_n 0, 1) := by decide +kernel
theorem dl_359 : decode code 359 = .ok (.iload_n 3, 1) := by decide +kernel
theorem dl_360 : decode code 360 = .ok (.iconst 1, 1) := by decide +kernel
theorem dl_361 : decode code 361 = .ok (.iadd, 1) := by decide +kernel
theorem dl_362 : decode code 362 = .ok (.iaload, 1) := by decide +kernel
theorem dl_363 : decode code 363 = .ok (.invokevirtual 38, 3) := by decide +kernel
theorem dl_366 : decode code 366 = .ok (.pop, 1) := by decide +kernel
theorem dl_367 : decode code 367 = .ok (.aload_n 2, 1) := by decide +kernel
theorem dl_368 : decode code 368 = .ok (.aload_n 0, 1) := by decide +kernel
theorem dl_369 : decode code 369 = .ok (.iload_n 3, 1) := by decide +kernel
theorem dl_370 : decode code 370 = .ok (.iconst 1, 1) := by decide +kernel
theorem dl_371 : decode code 371 = .ok (.iadd, 1) := by decide +kernel
theorem dl_372 : decode code 372 = .ok (.iaload, 1) := by decide +kernel
theorem dl_373 : decode code 373 = .ok (.invokevirtual 41, 3) := by decide +kernel
theorem dl_376 : decode code 376 = .ok (.pop, 1) := by decide +kernel
theorem dl_377 : decode code 377 = .ok (.goto 848, 3) := by decide +kernel
theorem dl_380 : decode code 380 = .ok (.aload_n 1, 1) := by decide +kernel
theorem dl_381 : decode code 381 = .ok (.aload_n 0, 1) := by decide +kernel
theorem dl_382 : decode code 382 = .ok (.iload_n 3, 1) := by decide +kernel
theorem dl_383 : decode code 383 = .ok (.iconst 1, 1) := by decide +kernel
theorem dl_384 : decode code 384 = .ok (.iadd, 1) := by decide +kernel
theorem dl_385 : decode code 385 = .ok (.iaload, 1) := by decide +kernel
theorem dl_386 : decode code 386 = .ok (.aload_n 0, 1) := by decide +kernel
theorem dl_387 : decode code 387 = .ok (.iload_n 3, 1) := by decide +kernel
theorem dl_388 : decode code 388 = .ok (.iconst 2, 1) := by decide +kernel
theorem dl_389 : decode code 389 = .ok (.iadd, 1) := by decide +kernel
theorem dl_390 : decode code 390 = .ok (.iaload, 1) := by decide +kernel
theorem dl_391 : decode code 391 = .ok (.invokevirtual 42, 3) := by decide +kernel
theorem dl_394 : decode code 394 = .ok (.pop, 1) := by decide +kernel
theorem dl_395 : decode code 395 = .ok (.aload_n 2, 1) := by decide +kernel
theorem dl_396 : decode code 396 = .ok (.aload_n 0, 1) := by decide +kernel
theorem dl_397 : decode code 397 = .ok (.iload_n 3, 1) := by decide +kernel
theorem dl_398 : decode code 398 = .ok (.iconst 1, 1) := by decide +kernel
theorem dl_399 : decode code 399 = .ok (.iadd, 1) := by decide +kernel
theorem dl_400 : decode code 400 = .ok (.iaload, 1) := by decide +kernel
theorem dl_401 : decode code 401 = .ok (.aload_n 0, 1) := by decide +kernel
theorem dl_402 : decode code 402 = .ok (.iload_n 3, 1) := by decide +kernel
theorem dl_403 : decode code 403 = .ok (.iconst 2, 1) := by decide +kernel
theorem dl_404 : decode code 404 = .ok (.iadd, 1) := by decide +kernel
theorem dl_405 : decode code 405 = .ok (.iaload, 1) := by decide +kernel
theorem dl_406 : decode code 406 = .ok (.invokevirtual 46, 3) := by decide +kernel
theorem dl_409 : decode code 409 = .ok (.pop, 1) := by decide +kernel
theorem dl_410 : decode code 410 = .ok (.goto 815, 3) := by decide +kernel
theorem dl_413 : decode code 413 = .ok (.aload_n 1, 1) := by decide +kernel
theorem dl_414 : decode code 414 = .ok (.aload_n 0, 1) := by decide +kernel
theorem dl_415 : decode code 415 = .ok (.iload_n 3, 1) := by decide +kernel
theorem dl_416 : decode code 416 = .ok (.iconst 1, 1) := by decide +kernel
theorem dl_417 : decode code 417 = .ok (.iadd, 1) := by decide +kernel
theorem dl_418 : decode code 418 = .ok (.iaload, 1) := by decide +kernel
theorem dl_419 : decode code 419 = .ok (.ifCond .eq 7, 3) := by decide +kernel
theorem dl_422 : decode code 422 = .ok (.iconst 1, 1) := by decide +kernel
theorem dl_423 : decode code 423 = .ok (.goto 4, 3) := by decide +kernel
theorem dl_426 : decode code 426 = .ok (.iconst 0, 1) := by decide +kernel
theorem dl_427 : decode code 427 = .ok (.aload_n 0, 1) := by decide +kernel
theorem dl_428 : decode code 428 = .ok (.iload_n 3, 1) := by decide +kernel
theorem dl_429 : decode code 429 = .ok (.iconst 2, 1) := by decide +kernel
theorem dl_430 : decode code 430 = .ok (.iadd, 1) := by decide +kernel
theorem dl_431 : decode code 431 = .ok (.iaload, 1) := by decide +kernel
theorem dl_432 : decode code 432 = .ok (.invokevirtual 47, 3) := by decide +kernel
theorem dl_435 : decode code 435 = .ok (.pop, 1) := by decide +kernel
theorem dl_436 : decode code 436 = .ok (.aload_n 2, 1) := by decide +kernel
theorem dl_437 : decode code 437 = .ok (.aload_n 0, 1) := by decide +kernel
theorem dl_438 : decode code 438 = .ok (.iload_n 3, 1) := by decide +kernel
theorem dl_439 : decode code 439 = .ok (.iconst 1, 1) := by decide +kernel
theorem dl_440 : decode code 440 = .ok (.iadd, 1) := by decide +kernel
theorem dl_441 : decode code 441 = .ok (.iaload, 1) := by decide +kernel
theorem dl_442 : decode code 442 = .ok (.ifCond .eq 7, 3) := by decide +kernel
theorem dl_445 : decode code 445 = .ok (.iconst 1, 1) := by decide +kernel
theorem dl_446 : decode code 446 = .ok (.goto 4, 3) := by decide +kernel
theorem dl_449 : decode code 449 = .ok (.iconst 0, 1) := by decide +kernel
theorem dl_450 : decode code 450 = .ok (.aload_n 0, 1) := by decide +kernel
theorem dl_451 : decode code 451 = .ok (.iload_n 3, 1) := by decide +kernel
theorem dl_452 : decode code 452 = .ok (.iconst 2, 1) := by decide +kernel
theorem dl_453 : decode code 453 = .ok (.iadd, 1) := by decide +kernel
