theorem d_L_law_329 : decode (qB q_L_law) 329 = .ok (.i2l, 1) := by decide +kernel
theorem d_L_law_330 : decode (qB q_L_law) 330 = .ok (.bipush 32, 2) := by decide +kernel
theorem d_L_law_332 : decode (qB q_L_law) 332 = .ok (.lshl, 1) := by decide +kernel
theorem d_L_law_333 : decode (qB q_L_law) 333 = .ok (.aload_n 0, 1) := by decide +kernel
theorem d_L_law_334 : decode (qB q_L_law) 334 = .ok (.iload_n 3, 1) := by decide +kernel
theorem d_L_law_335 : decode (qB q_L_law) 335 = .ok (.iconst 5, 1) := by decide +kernel
theorem d_L_law_336 : decode (qB q_L_law) 336 = .ok (.iadd, 1) := by decide +kernel
theorem d_L_law_337 : decode (qB q_L_law) 337 = .ok (.iaload, 1) := by decide +kernel
theorem d_L_law_338 : decode (qB q_L_law) 338 = .ok (.i2l, 1) := by decide +kernel
theorem d_L_law_339 : decode (qB q_L_law) 339 = .ok (.ldc2_w 35, 3) := by decide +kernel
theorem d_L_law_342 : decode (qB q_L_law) 342 = .ok (.land, 1) := by decide +kernel
theorem d_L_law_343 : decode (qB q_L_law) 343 = .ok (.lor, 1) := by decide +kernel
theorem d_L_law_344 : decode (qB q_L_law) 344 = .ok (.invokevirtual 41, 3) := by decide +kernel
theorem d_L_law_347 : decode (qB q_L_law) 347 = .ok (.if_icmp .eq 653, 3) := by decide +kernel
theorem d_L_law_350 : decode (qB q_L_law) 350 = .ok (.iconst 0, 1) := by decide +kernel
theorem d_L_law_351 : decode (qB q_L_law) 351 = .ok (.ireturn, 1) := by decide +kernel
theorem d_L_law_352 : decode (qB q_L_law) 352 = .ok (.aload_n 1, 1) := by decide +kernel
theorem d_L_law_353 : decode (qB q_L_law) 353 = .ok (.aload_n 0, 1) := by decide +kernel
theorem d_L_law_354 : decode (qB q_L_law) 354 = .ok (.iload_n 3, 1) := by decide +kernel
theorem d_L_law_355 : decode (qB q_L_law) 355 = .ok (.iconst 1, 1) := by decide +kernel
theorem d_L_law_356 : decode (qB q_L_law) 356 = .ok (.iadd, 1) := by decide +kernel
theorem d_L_law_357 : decode (qB q_L_law) 357 = .ok (.iaload, 1) := by decide +kernel
theorem d_L_law_358 : decode (qB q_L_law) 358 = .ok (.aload_n 0, 1) := by decide +kernel
theorem d_L_law_359 : decode (qB q_L_law) 359 = .ok (.iload_n 3, 1) := by decide +kernel
theorem d_L_law_360 : decode (qB q_L_law) 360 = .ok (.iconst 2, 1) := by decide +kernel
theorem d_L_law_361 : decode (qB q_L_law) 361 = .ok (.iadd, 1) := by decide +kernel
theorem d_L_law_362 : decode (qB q_L_law) 362 = .ok (.iaload, 1) := by decide +kernel
theorem d_L_law_363 : decode (qB q_L_law) 363 = .ok (.i2l, 1) := by decide +kernel
theorem d_L_law_364 : decode (qB q_L_law) 364 = .ok (.bipush 32, 2) := by decide +kernel
theorem d_L_law_366 : decode (qB q_L_law) 366 = .ok (.lshl, 1) := by decide +kernel
theorem d_L_law_367 : decode (qB q_L_law) 367 = .ok (.aload_n 0, 1) := by decide +kernel
theorem d_L_law_368 : decode (qB q_L_law) 368 = .ok (.iload_n 3, 1) := by decide +kernel
theorem d_L_law_369 : decode (qB q_L_law) 369 = .ok (.iconst 3, 1) := by decide +kernel
theorem d_L_law_370 : decode (qB q_L_law) 370 = .ok (.iadd, 1) := by decide +kernel
theorem d_L_law_371 : decode (qB q_L_law) 371 = .ok (.iaload, 1) := by decide +kernel
theorem d_L_law_372 : decode (qB q_L_law) 372 = .ok (.i2l, 1) := by decide +kernel
theorem d_L_law_373 : decode (qB q_L_law) 373 = .ok (.ldc2_w 35, 3) := by decide +kernel
theorem d_L_law_376 : decode (qB q_L_law) 376 = .ok (.land, 1) := by decide +kernel
theorem d_L_law_377 : decode (qB q_L_law) 377 = .ok (.lor, 1) := by decide +kernel
theorem d_L_law_378 : decode (qB q_L_law) 378 = .ok (.aload_n 0, 1) := by decide +kernel
theorem d_L_law_379 : decode (qB q_L_law) 379 = .ok (.iload_n 3, 1) := by decide +kernel
theorem d_L_law_380 : decode (qB q_L_law) 380 = .ok (.iconst 4, 1) := by decide +kernel
theorem d_L_law_381 : decode (qB q_L_law) 381 = .ok (.iadd, 1) := by decide +kernel
theorem d_L_law_382 : decode (qB q_L_law) 382 = .ok (.iaload, 1) := by decide +kernel
theorem d_L_law_383 : decode (qB q_L_law) 383 = .ok (.i2l, 1) := by decide +kernel
theorem d_L_law_384 : decode (qB q_L_law) 384 = .ok (.bipush 32, 2) := by decide +kernel
theorem d_L_law_386 : decode (qB q_L_law) 386 = .ok (.lshl, 1) := by decide +kernel
theorem d_L_law_387 : decode (qB q_L_law) 387 = .ok (.aload_n 0, 1) := by decide +kernel
theorem d_L_law_388 : decode (qB q_L_law) 388 = .ok (.iload_n 3, 1) := by decide +kernel
theorem d_L_law_389 : decode (qB q_L_law) 389 = .ok (.iconst 5, 1) := by decide +kernel
theorem d_L_law_390 : decode (qB q_L_law) 390 = .ok (.iadd, 1) := by decide +kernel
theorem d_L_law_391 : decode (qB q_L_law) 391 = .ok (.iaload, 1) := by decide +kernel
theorem d_L_law_392 : decode (qB q_L_law) 392 = .ok (.i2l, 1) := by decide +kernel
theorem d_L_law_393 : decode (qB q_L_law) 393 = .ok (.ldc2_w 35, 3) := by decide +kernel
theorem d_L_law_396 : decode (qB q_L_law) 396 = .ok (.land, 1) := by decide +kernel
theorem d_L_law_397 : decode (qB q_L_law) 397 = .ok (.lor, 1) := by decide +kernel
theorem d_L_law_398 : decode (qB q_L_law) 398 = .ok (.invokevirtual 42, 3) := by decide +kernel
theorem d_L_law_401 : decode (qB q_L_law) 401 = .ok (.aload_n 2, 1) := by decide +kernel
theorem d_L_law_402 : decode (qB q_L_law) 402 = .ok (.aload_n 0, 1) := by decide +kernel
theorem d_L_law_403 : decode (qB q_L_law) 403 = .ok (.iload_n 3, 1) := by decide +kernel
theorem d_L_law_404 : decode (qB q_L_law) 404 = .ok (.iconst 1, 1) := by decide +kernel
theorem d_L_law_405 : decode (qB q_L_law) 405 = .ok (.iadd, 1) := by decide +kernel
theorem d_L_law_406 : decode (qB q_L_law) 406 = .ok (.iaload, 1) := by decide +kernel
theorem d_L_law_407 : decode (qB q_L_law) 407 = .ok (.aload_n 0, 1) := by decide +kernel
theorem d_L_law_408 : decode (qB q_L_law) 408 = .ok (.iload_n 3, 1) := by decide +kernel
theorem d_L_law_409 : decode (qB q_L_law) 409 = .ok (.iconst 2, 1) := by decide +kernel
theorem d_L_law_410 : decode (qB q_L_law) 410 = .ok (.iadd, 1) := by decide +kernel
theorem d_L_law_411 : decode (qB q_L_law) 411 = .ok (.iaload, 1) := by decide +kernel
theorem d_L_law_412 : decode (qB q_L_law) 412 = .ok (.i2l, 1) := by decide +kernel
theorem d_L_law_413 : decode (qB q_L_law) 413 = .ok (.bipush 32, 2) := by decide +kernel
theorem d_L_law_415 : decode (qB q_L_law) 415 = .ok (.lshl, 1) := by decide +kernel
theorem d_L_law_416 : decode (qB q_L_law) 416 = .ok (.aload_n 0, 1) := by decide +kernel
theorem d_L_law_417 : decode (qB q_L_law) 417 = .ok (.iload_n 3, 1) := by decide +kernel
theorem d_L_law_418 : decode (qB q_L_law) 418 = .ok (.iconst 3, 1) := by decide +kernel
theorem d_L_law_419 : decode (qB q_L_law) 419 = .ok (.iadd, 1) := by decide +kernel
theorem d_L_law_420 : decode (qB q_L_law) 420 = .ok (.iaload, 1) := by decide +kernel
theorem d_L_law_421 : decode (qB q_L_law) 421 = .ok (.i2l, 1) := by decide +kernel
theorem d_L_law_422 : decode (qB q_L_law) 422 = .ok (.ldc2_w 35, 3) := by decide +kernel
theorem d_L_law_425 : decode (qB q_L_law) 425 = .ok (.land, 1) := by decide +kernel
theorem d_L_law_426 : decode (qB q_L_law) 426 = .ok (.lor, 1) := by decide +kernel
theorem d_L_law_427 : decode (qB q_L_law) 427 = .ok (.aload_n 0, 1) := by decide +kernel
theorem d_L_law_428 : decode (qB q_L_law) 428 = .ok (.iload_n 3, 1) := by decide +kernel
theorem d_L_law_429 : decode (qB q_L_law) 429 = .ok (.iconst 4, 1) := by decide +kernel
theorem d_L_law_430 : decode (qB q_L_law) 430 = .ok (.iadd, 1) := by decide +kernel
theorem d_L_law_431 : decode (qB q_L_law) 431 = .ok (.iaload, 1) := by decide +kernel
theorem d_L_law_432 : decode (qB q_L_law) 432 = .ok (.i2l, 1) := by decide +kernel
theorem d_L_law_433 : decode (qB q_L_law) 433 = .ok (.bipush 32, 2) := by decide +kernel
theorem d_L_law_435 : decode (qB q_L_law) 435 = .ok (.lshl, 1) := by decide +kernel
theorem d_L_law_436 : decode (qB q_L_law) 436 = .ok (.aload_n 0, 1) := by decide +kernel
theorem d_L_law_437 : decode (qB q_L_law) 437 = .ok (.iload_n 3, 1) := by decide +kernel
theorem d_L_law_438 : decode (qB q_L_law) 438 = .ok (.iconst 5, 1) := by decide +kernel
theorem d_L_law_439 : decode (qB q_L_law) 439 = .ok (.iadd, 1) := by decide +kernel
theorem d_L_law_440 : decode (qB q_L_law) 440 = .ok (.iaload, 1) := by decide +kernel
theorem d_L_law_441 : decode (qB q_L_law) 441 = .ok (.i2l, 1) := by decide +kernel
theorem d_L_law_442 : decode (qB q_L_law) 442 = .ok (.ldc2_w 35, 3) := by decide +kernel
theorem d_L_law_445 : decode (qB q_L_law) 445 = .ok (.land, 1) := by decide +kernel
theorem d_L_law_446 : decode (qB q_L_law) 446 = .ok (.lor, 1) := by decide +kernel
theorem d_L_law_447 : decode (qB q_L_law) 447 = .ok (.invokevirtual 46, 3) := by decide +kernel
theorem d_L_law_450 : decode (qB q_L_law) 450 = .ok (.if_icmp .eq 550, 3) := by decide +kernel
theorem d_L_law_453 : decode (qB q_L_law) 453 = .ok (.iconst 0, 1) := by decide +kernel
