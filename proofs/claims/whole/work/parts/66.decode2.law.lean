theorem d_L_law_314 : decode code 314 = .ok (.aload_n 0, 1) := by decide +kernel
theorem d_L_law_315 : decode code 315 = .ok (.iload 4, 2) := by decide +kernel
theorem d_L_law_317 : decode code 317 = .ok (.iconst 2, 1) := by decide +kernel
theorem d_L_law_318 : decode code 318 = .ok (.iadd, 1) := by decide +kernel
theorem d_L_law_319 : decode code 319 = .ok (.iaload, 1) := by decide +kernel
theorem d_L_law_320 : decode code 320 = .ok (.invokevirtual 96, 3) := by decide +kernel
theorem d_L_law_323 : decode code 323 = .ok (.istore 6, 2) := by decide +kernel
theorem d_L_law_325 : decode code 325 = .ok (.aload_n 2, 1) := by decide +kernel
theorem d_L_law_326 : decode code 326 = .ok (.invokevirtual 83, 3) := by decide +kernel
theorem d_L_law_329 : decode code 329 = .ok (.iload 5, 2) := by decide +kernel
theorem d_L_law_331 : decode code 331 = .ok (.if_icmp .eq 5, 3) := by decide +kernel
theorem d_L_law_334 : decode code 334 = .ok (.iconst 0, 1) := by decide +kernel
theorem d_L_law_335 : decode code 335 = .ok (.ireturn, 1) := by decide +kernel
theorem d_L_law_336 : decode code 336 = .ok (.iload 5, 2) := by decide +kernel
theorem d_L_law_338 : decode code 338 = .ok (.ifCond .ne 15, 3) := by decide +kernel
theorem d_L_law_341 : decode code 341 = .ok (.aload_n 3, 1) := by decide +kernel
theorem d_L_law_342 : decode code 342 = .ok (.iconst 0, 1) := by decide +kernel
theorem d_L_law_343 : decode code 343 = .ok (.laload, 1) := by decide +kernel
theorem d_L_law_344 : decode code 344 = .ok (.iload 6, 2) := by decide +kernel
theorem d_L_law_346 : decode code 346 = .ok (.i2l, 1) := by decide +kernel
theorem d_L_law_347 : decode code 347 = .ok (.lcmp, 1) := by decide +kernel
theorem d_L_law_348 : decode code 348 = .ok (.ifCond .eq 5, 3) := by decide +kernel
theorem d_L_law_351 : decode code 351 = .ok (.iconst 0, 1) := by decide +kernel
theorem d_L_law_352 : decode code 352 = .ok (.ireturn, 1) := by decide +kernel
theorem d_L_law_353 : decode code 353 = .ok (.goto 973, 3) := by decide +kernel
theorem d_L_law_356 : decode code 356 = .ok (.aload_n 1, 1) := by decide +kernel
theorem d_L_law_357 : decode code 357 = .ok (.aload_n 0, 1) := by decide +kernel
theorem d_L_law_358 : decode code 358 = .ok (.iload 4, 2) := by decide +kernel
theorem d_L_law_360 : decode code 360 = .ok (.iconst 1, 1) := by decide +kernel
theorem d_L_law_361 : decode code 361 = .ok (.iadd, 1) := by decide +kernel
theorem d_L_law_362 : decode code 362 = .ok (.iaload, 1) := by decide +kernel
theorem d_L_law_363 : decode code 363 = .ok (.aload_n 3, 1) := by decide +kernel
theorem d_L_law_364 : decode code 364 = .ok (.invokestatic 97, 3) := by decide +kernel
theorem d_L_law_367 : decode code 367 = .ok (.istore 5, 2) := by decide +kernel
theorem d_L_law_369 : decode code 369 = .ok (.aload_n 2, 1) := by decide +kernel
theorem d_L_law_370 : decode code 370 = .ok (.aload_n 0, 1) := by decide +kernel
theorem d_L_law_371 : decode code 371 = .ok (.iload 4, 2) := by decide +kernel
theorem d_L_law_373 : decode code 373 = .ok (.iconst 1, 1) := by decide +kernel
theorem d_L_law_374 : decode code 374 = .ok (.iadd, 1) := by decide +kernel
theorem d_L_law_375 : decode code 375 = .ok (.iaload, 1) := by decide +kernel
theorem d_L_law_376 : decode code 376 = .ok (.invokevirtual 99, 3) := by decide +kernel
theorem d_L_law_379 : decode code 379 = .ok (.istore 6, 2) := by decide +kernel
theorem d_L_law_381 : decode code 381 = .ok (.aload_n 2, 1) := by decide +kernel
theorem d_L_law_382 : decode code 382 = .ok (.invokevirtual 83, 3) := by decide +kernel
theorem d_L_law_385 : decode code 385 = .ok (.iload 5, 2) := by decide +kernel
theorem d_L_law_387 : decode code 387 = .ok (.if_icmp .eq 5, 3) := by decide +kernel
theorem d_L_law_390 : decode code 390 = .ok (.iconst 0, 1) := by decide +kernel
theorem d_L_law_391 : decode code 391 = .ok (.ireturn, 1) := by decide +kernel
theorem d_L_law_392 : decode code 392 = .ok (.iload 5, 2) := by decide +kernel
theorem d_L_law_394 : decode code 394 = .ok (.ifCond .ne 15, 3) := by decide +kernel
theorem d_L_law_397 : decode code 397 = .ok (.aload_n 3, 1) := by decide +kernel
theorem d_L_law_398 : decode code 398 = .ok (.iconst 0, 1) := by decide +kernel
theorem d_L_law_399 : decode code 399 = .ok (.laload, 1) := by decide +kernel
theorem d_L_law_400 : decode code 400 = .ok (.iload 6, 2) := by decide +kernel
theorem d_L_law_402 : decode code 402 = .ok (.i2l, 1) := by decide +kernel
theorem d_L_law_403 : decode code 403 = .ok (.lcmp, 1) := by decide +kernel
theorem d_L_law_404 : decode code 404 = .ok (.ifCond .eq 5, 3) := by decide +kernel
theorem d_L_law_407 : decode code 407 = .ok (.iconst 0, 1) := by decide +kernel
theorem d_L_law_408 : decode code 408 = .ok (.ireturn, 1) := by decide +kernel
theorem d_L_law_409 : decode code 409 = .ok (.goto 917, 3) := by decide +kernel
theorem d_L_law_412 : decode code 412 = .ok (.aload_n 1, 1) := by decide +kernel
theorem d_L_law_413 : decode code 413 = .ok (.aload_n 0, 1) := by decide +kernel
theorem d_L_law_414 : decode code 414 = .ok (.iload 4, 2) := by decide +kernel
theorem d_L_law_416 : decode code 416 = .ok (.iconst 1, 1) := by decide +kernel
theorem d_L_law_417 : decode code 417 = .ok (.iadd, 1) := by decide +kernel
theorem d_L_law_418 : decode code 418 = .ok (.iaload, 1) := by decide +kernel
theorem d_L_law_419 : decode code 419 = .ok (.aload_n 0, 1) := by decide +kernel
theorem d_L_law_420 : decode code 420 = .ok (.iload 4, 2) := by decide +kernel
theorem d_L_law_422 : decode code 422 = .ok (.iconst 2, 1) := by decide +kernel
theorem d_L_law_423 : decode code 423 = .ok (.iadd, 1) := by decide +kernel
theorem d_L_law_424 : decode code 424 = .ok (.iaload, 1) := by decide +kernel
theorem d_L_law_425 : decode code 425 = .ok (.aload_n 3, 1) := by decide +kernel
theorem d_L_law_426 : decode code 426 = .ok (.invokestatic 100, 3) := by decide +kernel
theorem d_L_law_429 : decode code 429 = .ok (.istore 5, 2) := by decide +kernel
theorem d_L_law_431 : decode code 431 = .ok (.aload_n 2, 1) := by decide +kernel
theorem d_L_law_432 : decode code 432 = .ok (.aload_n 0, 1) := by decide +kernel
theorem d_L_law_433 : decode code 433 = .ok (.iload 4, 2) := by decide +kernel
theorem d_L_law_435 : decode code 435 = .ok (.iconst 1, 1) := by decide +kernel
theorem d_L_law_436 : decode code 436 = .ok (.iadd, 1) := by decide +kernel
theorem d_L_law_437 : decode code 437 = .ok (.iaload, 1) := by decide +kernel
theorem d_L_law_438 : decode code 438 = .ok (.aload_n 0, 1) := by decide +kernel
theorem d_L_law_439 : decode code 439 = .ok (.iload 4, 2) := by decide +kernel
theorem d_L_law_441 : decode code 441 = .ok (.iconst 2, 1) := by decide +kernel
theorem d_L_law_442 : decode code 442 = .ok (.iadd, 1) := by decide +kernel
theorem d_L_law_443 : decode code 443 = .ok (.iaload, 1) := by decide +kernel
theorem d_L_law_444 : decode code 444 = .ok (.invokevirtual 102, 3) := by decide +kernel
theorem d_L_law_447 : decode code 447 = .ok (.istore 6, 2) := by decide +kernel
theorem d_L_law_449 : decode code 449 = .ok (.aload_n 2, 1) := by decide +kernel
theorem d_L_law_450 : decode code 450 = .ok (.invokevirtual 83, 3) := by decide +kernel
theorem d_L_law_453 : decode code 453 = .ok (.iload 5, 2) := by decide +kernel
theorem d_L_law_455 : decode code 455 = .ok (.if_icmp .eq 5, 3) := by decide +kernel
theorem d_L_law_458 : decode code 458 = .ok (.iconst 0, 1) := by decide +kernel
theorem d_L_law_459 : decode code 459 = .ok (.ireturn, 1) := by decide +kernel
theorem d_L_law_460 : decode code 460 = .ok (.iload 5, 2) := by decide +kernel
theorem d_L_law_462 : decode code 462 = .ok (.ifCond .ne 15, 3) := by decide +kernel
theorem d_L_law_465 : decode code 465 = .ok (.aload_n 3, 1) := by decide +kernel
theorem d_L_law_466 : decode code 466 = .ok (.iconst 0, 1) := by decide +kernel
theorem d_L_law_467 : decode code 467 = .ok (.laload, 1) := by decide +kernel
theorem d_L_law_468 : decode code 468 = .ok (.iload 6, 2) := by decide +kernel
theorem d_L_law_470 : decode code 470 = .ok (.i2l, 1) := by decide +kernel
theorem d_L_law_471 : decode code 471 = .ok (.lcmp, 1) := by decide +kernel
theorem d_L_law_472 : decode code 472 = .ok (.ifCond .eq 5, 3) := by decide +kernel
theorem d_L_law_475 : decode code 475 = .ok (.iconst 0, 1) := by decide +kernel
theorem d_L_law_476 : decode code 476 = .ok (.ireturn, 1) := by decide +kernel
theorem d_L_law_477 : decode code 477 = .ok (.goto 849, 3) := by decide +kernel
theorem d_L_law_480 : decode code 480 = .ok (.aload_n 1, 1) := by decide +kernel
theorem d_L_law_481 : decode code 481 = .ok (.aload_n 0, 1) := by decide +kernel
theorem d_L_law_482 : decode code 482 = .ok (.iload 4, 2) := by decide +kernel
theorem d_L_law_484 : decode code 484 = .ok (.iconst 1, 1) := by decide +kernel
theorem d_L_law_485 : decode code 485 = .ok (.iadd, 1) := by decide +kernel
theorem d_L_law_486 : decode code 486 = .ok (.iaload, 1) := by decide +kernel
theorem d_L_law_487 : decode code 487 = .ok (.aload_n 0, 1) := by decide +kernel
theorem d_L_law_488 : decode code 488 = .ok (.iload 4, 2) := by decide +kernel
theorem d_L_law_490 : decode code 490 = .ok (.iconst 2, 1) := by decide +kernel
theorem d_L_law_491 : decode code 491 = .ok (.iadd, 1) := by decide +kernel
theorem d_L_law_492 : decode code 492 = .ok (.iaload, 1) := by decide +kernel
theorem d_L_law_493 : decode code 493 = .ok (.aload_n 3, 1) := by decide +kernel
theorem d_L_law_494 : decode code 494 = .ok (.invokestatic 103, 3) := by decide +kernel
theorem d_L_law_497 : decode code 497 = .ok (.istore 5, 2) := by decide +kernel
theorem d_L_law_499 : decode code 499 = .ok (.aload_n 2, 1) := by decide +kernel
theorem d_L_law_500 : decode code 500 = .ok (.aload_n 0, 1) := by decide +kernel
theorem d_L_law_501 : decode code 501 = .ok (.iload 4, 2) := by decide +kernel
theorem d_L_law_503 : decode code 503 = .ok (.iconst 1, 1) := by decide +kernel
theorem d_L_law_504 : decode code 504 = .ok (.iadd, 1) := by decide +kernel
theorem d_L_law_505 : decode code 505 = .ok (.iaload, 1) := by decide +kernel
theorem d_L_law_506 : decode code 506 = .ok (.aload_n 0, 1) := by decide +kernel
theorem d_L_law_507 : decode code 507 = .ok (.iload 4, 2) := by decide +kernel
theorem d_L_law_509 : decode code 509 = .ok (.iconst 2, 1) := by decide +kernel
theorem d_L_law_510 : decode code 510 = .ok (.iadd, 1) := by decide +kernel
theorem d_L_law_511 : decode code 511 = .ok (.iaload, 1) := by decide +kernel
theorem d_L_law_512 : decode code 512 = .ok (.invokevirtual 105, 3) := by decide +kernel
theorem d_L_law_515 : decode code 515 = .ok (.istore 6, 2) := by decide +kernel
theorem d_L_law_517 : decode code 517 = .ok (.aload_n 2, 1) := by decide +kernel
theorem d_L_law_518 : decode code 518 = .ok (.invokevirtual 83, 3) := by decide +kernel
theorem d_L_law_521 : decode code 521 = .ok (.iload 5, 2) := by decide +kernel
theorem d_L_law_523 : decode code 523 = .ok (.if_icmp .eq 5, 3) := by decide +kernel
theorem d_L_law_526 : decode code 526 = .ok (.iconst 0, 1) := by decide +kernel
theorem d_L_law_527 : decode code 527 = .ok (.ireturn, 1) := by decide +kernel
theorem d_L_law_528 : decode code 528 = .ok (.iload 5, 2) := by decide +kernel
theorem d_L_law_530 : decode code 530 = .ok (.ifCond .ne 15, 3) := by decide +kernel
theorem d_L_law_533 : decode code 533 = .ok (.aload_n 3, 1) := by decide +kernel
theorem d_L_law_534 : decode code 534 = .ok (.iconst 0, 1) := by decide +kernel
theorem d_L_law_535 : decode code 535 = .ok (.laload, 1) := by decide +kernel
theorem d_L_law_536 : decode code 536 = .ok (.iload 6, 2) := by decide +kernel
theorem d_L_law_538 : decode code 538 = .ok (.i2l, 1) := by decide +kernel
theorem d_L_law_539 : decode code 539 = .ok (.lcmp, 1) := by decide +kernel
theorem d_L_law_540 : decode code 540 = .ok (.ifCond .eq 5, 3) := by decide +kernel
theorem d_L_law_543 : decode code 543 = .ok (.iconst 0, 1) := by decide +kernel
theorem d_L_law_544 : decode code 544 = .ok (.ireturn, 1) := by decide +kernel
theorem d_L_law_545 : decode code 545 = .ok (.goto 781, 3) := by decide +kernel
