theorem d_Law_law_324 : decode code 324 = .ok (.iload 4, 2) := by decide +kernel
theorem d_Law_law_326 : decode code 326 = .ok (.iconst 1, 1) := by decide +kernel
theorem d_Law_law_327 : decode code 327 = .ok (.iadd, 1) := by decide +kernel
theorem d_Law_law_328 : decode code 328 = .ok (.iaload, 1) := by decide +kernel
theorem d_Law_law_329 : decode code 329 = .ok (.aload_n 0, 1) := by decide +kernel
theorem d_Law_law_330 : decode code 330 = .ok (.iload 4, 2) := by decide +kernel
theorem d_Law_law_332 : decode code 332 = .ok (.iconst 2, 1) := by decide +kernel
theorem d_Law_law_333 : decode code 333 = .ok (.iadd, 1) := by decide +kernel
theorem d_Law_law_334 : decode code 334 = .ok (.iaload, 1) := by decide +kernel
theorem d_Law_law_335 : decode code 335 = .ok (.invokevirtual 83, 3) := by decide +kernel
theorem d_Law_law_338 : decode code 338 = .ok (.istore 6, 2) := by decide +kernel
theorem d_Law_law_340 : decode code 340 = .ok (.aload_n 2, 1) := by decide +kernel
theorem d_Law_law_341 : decode code 341 = .ok (.invokevirtual 71, 3) := by decide +kernel
theorem d_Law_law_344 : decode code 344 = .ok (.iload 5, 2) := by decide +kernel
theorem d_Law_law_346 : decode code 346 = .ok (.if_icmp .eq 5, 3) := by decide +kernel
theorem d_Law_law_349 : decode code 349 = .ok (.iconst 0, 1) := by decide +kernel
theorem d_Law_law_350 : decode code 350 = .ok (.ireturn, 1) := by decide +kernel
theorem d_Law_law_351 : decode code 351 = .ok (.iload 5, 2) := by decide +kernel
theorem d_Law_law_353 : decode code 353 = .ok (.ifCond .ne 15, 3) := by decide +kernel
theorem d_Law_law_356 : decode code 356 = .ok (.aload_n 3, 1) := by decide +kernel
theorem d_Law_law_357 : decode code 357 = .ok (.iconst 0, 1) := by decide +kernel
theorem d_Law_law_358 : decode code 358 = .ok (.laload, 1) := by decide +kernel
theorem d_Law_law_359 : decode code 359 = .ok (.iload 6, 2) := by decide +kernel
theorem d_Law_law_361 : decode code 361 = .ok (.i2l, 1) := by decide +kernel
theorem d_Law_law_362 : decode code 362 = .ok (.lcmp, 1) := by decide +kernel
theorem d_Law_law_363 : decode code 363 = .ok (.ifCond .eq 5, 3) := by decide +kernel
theorem d_Law_law_366 : decode code 366 = .ok (.iconst 0, 1) := by decide +kernel
theorem d_Law_law_367 : decode code 367 = .ok (.ireturn, 1) := by decide +kernel
theorem d_Law_law_368 : decode code 368 = .ok (.goto 895, 3) := by decide +kernel
theorem d_Law_law_371 : decode code 371 = .ok (.aload_n 1, 1) := by decide +kernel
theorem d_Law_law_372 : decode code 372 = .ok (.aload_n 0, 1) := by decide +kernel
theorem d_Law_law_373 : decode code 373 = .ok (.iload 4, 2) := by decide +kernel
theorem d_Law_law_375 : decode code 375 = .ok (.iconst 1, 1) := by decide +kernel
theorem d_Law_law_376 : decode code 376 = .ok (.iadd, 1) := by decide +kernel
theorem d_Law_law_377 : decode code 377 = .ok (.iaload, 1) := by decide +kernel
theorem d_Law_law_378 : decode code 378 = .ok (.aload_n 0, 1) := by decide +kernel
theorem d_Law_law_379 : decode code 379 = .ok (.iload 4, 2) := by decide +kernel
theorem d_Law_law_381 : decode code 381 = .ok (.iconst 2, 1) := by decide +kernel
theorem d_Law_law_382 : decode code 382 = .ok (.iadd, 1) := by decide +kernel
theorem d_Law_law_383 : decode code 383 = .ok (.iaload, 1) := by decide +kernel
theorem d_Law_law_384 : decode code 384 = .ok (.aload_n 0, 1) := by decide +kernel
theorem d_Law_law_385 : decode code 385 = .ok (.iload 4, 2) := by decide +kernel
theorem d_Law_law_387 : decode code 387 = .ok (.iconst 3, 1) := by decide +kernel
theorem d_Law_law_388 : decode code 388 = .ok (.iadd, 1) := by decide +kernel
theorem d_Law_law_389 : decode code 389 = .ok (.iaload, 1) := by decide +kernel
theorem d_Law_law_390 : decode code 390 = .ok (.aload_n 3, 1) := by decide +kernel
theorem d_Law_law_391 : decode code 391 = .ok (.invokestatic 84, 3) := by decide +kernel
theorem d_Law_law_394 : decode code 394 = .ok (.istore 5, 2) := by decide +kernel
theorem d_Law_law_396 : decode code 396 = .ok (.aload_n 2, 1) := by decide +kernel
theorem d_Law_law_397 : decode code 397 = .ok (.aload_n 0, 1) := by decide +kernel
theorem d_Law_law_398 : decode code 398 = .ok (.iload 4, 2) := by decide +kernel
theorem d_Law_law_400 : decode code 400 = .ok (.iconst 1, 1) := by decide +kernel
theorem d_Law_law_401 : decode code 401 = .ok (.iadd, 1) := by decide +kernel
theorem d_Law_law_402 : decode code 402 = .ok (.iaload, 1) := by decide +kernel
theorem d_Law_law_403 : decode code 403 = .ok (.aload_n 0, 1) := by decide +kernel
theorem d_Law_law_404 : decode code 404 = .ok (.iload 4, 2) := by decide +kernel
theorem d_Law_law_406 : decode code 406 = .ok (.iconst 2, 1) := by decide +kernel
theorem d_Law_law_407 : decode code 407 = .ok (.iadd, 1) := by decide +kernel
theorem d_Law_law_408 : decode code 408 = .ok (.iaload, 1) := by decide +kernel
theorem d_Law_law_409 : decode code 409 = .ok (.aload_n 0, 1) := by decide +kernel
theorem d_Law_law_410 : decode code 410 = .ok (.iload 4, 2) := by decide +kernel
theorem d_Law_law_412 : decode code 412 = .ok (.iconst 3, 1) := by decide +kernel
theorem d_Law_law_413 : decode code 413 = .ok (.iadd, 1) := by decide +kernel
theorem d_Law_law_414 : decode code 414 = .ok (.iaload, 1) := by decide +kernel
theorem d_Law_law_415 : decode code 415 = .ok (.invokevirtual 87, 3) := by decide +kernel
theorem d_Law_law_418 : decode code 418 = .ok (.istore 6, 2) := by decide +kernel
theorem d_Law_law_420 : decode code 420 = .ok (.aload_n 2, 1) := by decide +kernel
theorem d_Law_law_421 : decode code 421 = .ok (.invokevirtual 71, 3) := by decide +kernel
theorem d_Law_law_424 : decode code 424 = .ok (.iload 5, 2) := by decide +kernel
theorem d_Law_law_426 : decode code 426 = .ok (.if_icmp .eq 5, 3) := by decide +kernel
theorem d_Law_law_429 : decode code 429 = .ok (.iconst 0, 1) := by decide +kernel
theorem d_Law_law_430 : decode code 430 = .ok (.ireturn, 1) := by decide +kernel
theorem d_Law_law_431 : decode code 431 = .ok (.iload 5, 2) := by decide +kernel
theorem d_Law_law_433 : decode code 433 = .ok (.ifCond .ne 15, 3) := by decide +kernel
theorem d_Law_law_436 : decode code 436 = .ok (.aload_n 3, 1) := by decide +kernel
theorem d_Law_law_437 : decode code 437 = .ok (.iconst 0, 1) := by decide +kernel
theorem d_Law_law_438 : decode code 438 = .ok (.laload, 1) := by decide +kernel
theorem d_Law_law_439 : decode code 439 = .ok (.iload 6, 2) := by decide +kernel
theorem d_Law_law_441 : decode code 441 = .ok (.i2l, 1) := by decide +kernel
theorem d_Law_law_442 : decode code 442 = .ok (.lcmp, 1) := by decide +kernel
theorem d_Law_law_443 : decode code 443 = .ok (.ifCond .eq 5, 3) := by decide +kernel
theorem d_Law_law_446 : decode code 446 = .ok (.iconst 0, 1) := by decide +kernel
theorem d_Law_law_447 : decode code 447 = .ok (.ireturn, 1) := by decide +kernel
theorem d_Law_law_448 : decode code 448 = .ok (.goto 815, 3) := by decide +kernel
theorem d_Law_law_451 : decode code 451 = .ok (.aload_n 1, 1) := by decide +kernel
theorem d_Law_law_452 : decode code 452 = .ok (.invokevirtual 88, 3) := by decide +kernel
theorem d_Law_law_455 : decode code 455 = .ok (.aload_n 2, 1) := by decide +kernel
theorem d_Law_law_456 : decode code 456 = .ok (.invokevirtual 92, 3) := by decide +kernel
theorem d_Law_law_459 : decode code 459 = .ok (.lcmp, 1) := by decide +kernel
theorem d_Law_law_460 : decode code 460 = .ok (.ifCond .eq 803, 3) := by decide +kernel
theorem d_Law_law_463 : decode code 463 = .ok (.iconst 0, 1) := by decide +kernel
theorem d_Law_law_464 : decode code 464 = .ok (.ireturn, 1) := by decide +kernel
theorem d_Law_law_465 : decode code 465 = .ok (.aload_n 1, 1) := by decide +kernel
theorem d_Law_law_466 : decode code 466 = .ok (.aload_n 0, 1) := by decide +kernel
theorem d_Law_law_467 : decode code 467 = .ok (.iload 4, 2) := by decide +kernel
theorem d_Law_law_469 : decode code 469 = .ok (.iconst 1, 1) := by decide +kernel
theorem d_Law_law_470 : decode code 470 = .ok (.iadd, 1) := by decide +kernel
theorem d_Law_law_471 : decode code 471 = .ok (.iaload, 1) := by decide +kernel
theorem d_Law_law_472 : decode code 472 = .ok (.aload_n 0, 1) := by decide +kernel
theorem d_Law_law_473 : decode code 473 = .ok (.iload 4, 2) := by decide +kernel
