theorem dl_327 : decode code 327 = .ok (.iadd, 1) := by decide +kernel
theorem dl_328 : decode code 328 = .ok (.iaload, 1) := by decide +kernel
theorem dl_329 : decode code 329 = .ok (.ifCond .eq 7, 3) := by decide +kernel
theorem dl_332 : decode code 332 = .ok (.iconst 1, 1) := by decide +kernel
theorem dl_333 : decode code 333 = .ok (.goto 4, 3) := by decide +kernel
theorem dl_336 : decode code 336 = .ok (.iconst 0, 1) := by decide +kernel
theorem dl_337 : decode code 337 = .ok (.invokevirtual 38, 3) := by decide +kernel
theorem dl_340 : decode code 340 = .ok (.aload_n 2, 1) := by decide +kernel
theorem dl_341 : decode code 341 = .ok (.aload_n 0, 1) := by decide +kernel
theorem dl_342 : decode code 342 = .ok (.iload 4, 2) := by decide +kernel
theorem dl_344 : decode code 344 = .ok (.iconst 1, 1) := by decide +kernel
theorem dl_345 : decode code 345 = .ok (.iadd, 1) := by decide +kernel
theorem dl_346 : decode code 346 = .ok (.iaload, 1) := by decide +kernel
theorem dl_347 : decode code 347 = .ok (.aload_n 0, 1) := by decide +kernel
theorem dl_348 : decode code 348 = .ok (.iload 4, 2) := by decide +kernel
theorem dl_350 : decode code 350 = .ok (.iconst 2, 1) := by decide +kernel
theorem dl_351 : decode code 351 = .ok (.iadd, 1) := by decide +kernel
theorem dl_352 : decode code 352 = .ok (.iaload, 1) := by decide +kernel
theorem dl_353 : decode code 353 = .ok (.ifCond .eq 7, 3) := by decide +kernel
theorem dl_356 : decode code 356 = .ok (.iconst 1, 1) := by decide +kernel
theorem dl_357 : decode code 357 = .ok (.goto 4, 3) := by decide +kernel
theorem dl_360 : decode code 360 = .ok (.iconst 0, 1) := by decide +kernel
theorem dl_361 : decode code 361 = .ok (.invokevirtual 42, 3) := by decide +kernel
theorem dl_364 : decode code 364 = .ok (.if_icmp .eq 625, 3) := by decide +kernel
theorem dl_367 : decode code 367 = .ok (.iconst 0, 1) := by decide +kernel
theorem dl_368 : decode code 368 = .ok (.ireturn, 1) := by decide +kernel
theorem dl_369 : decode code 369 = .ok (.aload_n 1, 1) := by decide +kernel
theorem dl_370 : decode code 370 = .ok (.aload_n 0, 1) := by decide +kernel
theorem dl_371 : decode code 371 = .ok (.iload 4, 2) := by decide +kernel
theorem dl_373 : decode code 373 = .ok (.iconst 1, 1) := by decide +kernel
theorem dl_374 : decode code 374 = .ok (.iadd, 1) := by decide +kernel
theorem dl_375 : decode code 375 = .ok (.iaload, 1) := by decide +kernel
theorem dl_376 : decode code 376 = .ok (.aload_n 0, 1) := by decide +kernel
theorem dl_377 : decode code 377 = .ok (.iload 4, 2) := by decide +kernel
theorem dl_379 : decode code 379 = .ok (.iconst 2, 1) := by decide +kernel
theorem dl_380 : decode code 380 = .ok (.iadd, 1) := by decide +kernel
theorem dl_381 : decode code 381 = .ok (.iaload, 1) := by decide +kernel
theorem dl_382 : decode code 382 = .ok (.invokevirtual 43, 3) := by decide +kernel
theorem dl_385 : decode code 385 = .ok (.aload_n 2, 1) := by decide +kernel
theorem dl_386 : decode code 386 = .ok (.aload_n 0, 1) := by decide +kernel
theorem dl_387 : decode code 387 = .ok (.iload 4, 2) := by decide +kernel
theorem dl_389 : decode code 389 = .ok (.iconst 1, 1) := by decide +kernel
theorem dl_390 : decode code 390 = .ok (.iadd, 1) := by decide +kernel
theorem dl_391 : decode code 391 = .ok (.iaload, 1) := by decide +kernel
theorem dl_392 : decode code 392 = .ok (.aload_n 0, 1) := by decide +kernel
theorem dl_393 : decode code 393 = .ok (.iload 4, 2) := by decide +kernel
theorem dl_395 : decode code 395 = .ok (.iconst 2, 1) := by decide +kernel
theorem dl_396 : decode code 396 = .ok (.iadd, 1) := by decide +kernel
theorem dl_397 : decode code 397 = .ok (.iaload, 1) := by decide +kernel
theorem dl_398 : decode code 398 = .ok (.invokevirtual 46, 3) := by decide +kernel
theorem dl_401 : decode code 401 = .ok (.if_icmp .eq 588, 3) := by decide +kernel
theorem dl_404 : decode code 404 = .ok (.iconst 0, 1) := by decide +kernel
theorem dl_405 : decode code 405 = .ok (.ireturn, 1) := by decide +kernel
theorem dl_406 : decode code 406 = .ok (.aload_n 1, 1) := by decide +kernel
theorem dl_407 : decode code 407 = .ok (.aload_n 0, 1) := by decide +kernel
theorem dl_408 : decode code 408 = .ok (.iload 4, 2) := by decide +kernel
theorem dl_410 : decode code 410 = .ok (.iconst 1, 1) := by decide +kernel
theorem dl_411 : decode code 411 = .ok (.iadd, 1) := by decide +kernel
theorem dl_412 : decode code 412 = .ok (.iaload, 1) := by decide +kernel
theorem dl_413 : decode code 413 = .ok (.aload_n 0, 1) := by decide +kernel
theorem dl_414 : decode code 414 = .ok (.iload 4, 2) := by decide +kernel
theorem dl_416 : decode code 416 = .ok (.iconst 2, 1) := by decide +kernel
theorem dl_417 : decode code 417 = .ok (.iadd, 1) := by decide +kernel
theorem dl_418 : decode code 418 = .ok (.iaload, 1) := by decide +kernel
theorem dl_419 : decode code 419 = .ok (.invokevirtual 47, 3) := by decide +kernel
theorem dl_422 : decode code 422 = .ok (.aload_n 2, 1) := by decide +kernel
theorem dl_423 : decode code 423 = .ok (.aload_n 0, 1) := by decide +kernel
theorem dl_424 : decode code 424 = .ok (.iload 4, 2) := by decide +kernel
theorem dl_426 : decode code 426 = .ok (.iconst 1, 1) := by decide +kernel
theorem dl_427 : decode code 427 = .ok (.iadd, 1) := by decide +kernel
theorem dl_428 : decode code 428 = .ok (.iaload, 1) := by decide +kernel
theorem dl_429 : decode code 429 = .ok (.aload_n 0, 1) := by decide +kernel
theorem dl_430 : decode code 430 = .ok (.iload 4, 2) := by decide +kernel
theorem dl_432 : decode code 432 = .ok (.iconst 2, 1) := by decide +kernel
theorem dl_433 : decode code 433 = .ok (.iadd, 1) := by decide +kernel
theorem dl_434 : decode code 434 = .ok (.iaload, 1) := by decide +kernel
theorem dl_435 : decode code 435 = .ok (.invokevirtual 51, 3) := by decide +kernel
theorem dl_438 : decode code 438 = .ok (.if_icmp .eq 551, 3) := by decide +kernel
theorem dl_441 : decode code 441 = .ok (.iconst 0, 1) := by decide +kernel
theorem dl_442 : decode code 442 = .ok (.ireturn, 1) := by decide +kernel
theorem dl_443 : decode code 443 = .ok (.aload_n 1, 1) := by decide +kernel
theorem dl_444 : decode code 444 = .ok (.aload_n 0, 1) := by decide +kernel
theorem dl_445 : decode code 445 = .ok (.iload 4, 2) := by decide +kernel
theorem dl_447 : decode code 447 = .ok (.iconst 1, 1) := by decide +kernel
theorem dl_448 : decode code 448 = .ok (.iadd, 1) := by decide +kernel
theorem dl_449 : decode code 449 = .ok (.iaload, 1) := by decide +kernel
theorem dl_450 : decode code 450 = .ok (.aload_n 0, 1) := by decide +kernel
theorem dl_451 : decode code 451 = .ok (.iload 4, 2) := by decide +kernel
theorem dl_453 : decode code 453 = .ok (.iconst 2, 1) := by decide +kernel
theorem dl_454 : decode code 454 = .ok (.iadd, 1) := by decide +kernel
theorem dl_455 : decode code 455 = .ok (.iaload, 1) := by decide +kernel
theorem dl_456 : decode code 456 = .ok (.invokevirtual 52, 3) := by decide +kernel
theorem dl_459 : decode code 459 = .ok (.aload_n 2, 1) := by decide +kernel
theorem dl_460 : decode code 460 = .ok (.aload_n 0, 1) := by decide +kernel
theorem dl_461 : decode code 461 = .ok (.iload 4, 2) := by decide +kernel
theorem dl_463 : decode code 463 = .ok (.iconst 1, 1) := by decide +kernel
theorem dl_464 : decode code 464 = .ok (.iadd, 1) := by decide +kernel
theorem dl_465 : decode code 465 = .ok (.iaload, 1) := by decide +kernel
theorem dl_466 : decode code 466 = .ok (.aload_n 0, 1) := by decide +kernel
theorem dl_467 : decode code 467 = .ok (.iload 4, 2) := by decide +kernel
theorem dl_469 : decode code 469 = .ok (.iconst 2, 1) := by decide +kernel
theorem dl_470 : decode code 470 = .ok (.iadd, 1) := by decide +kernel
theorem dl_471 : decode code 471 = .ok (.iaload, 1) := by decide +kernel
theorem dl_472 : decode code 472 = .ok (.invokevirtual 55, 3) := by decide +kernel
theorem dl_475 : decode code 475 = .ok (.if_icmp .eq 514, 3) := by decide +kernel
theorem dl_478 : decode code 478 = .ok (.iconst 0, 1) := by decide +kernel
theorem dl_479 : decode code 479 = .ok (.ireturn, 1) := by decide +kernel
theorem dl_480 : decode code 480 = .ok (.aload_n 1, 1) := by decide +kernel
theorem dl_481 : decode code 481 = .ok (.aload_n 0, 1) := by decide +kernel
theorem dl_482 : decode code 482 = .ok (.iload 4, 2) := by decide +kernel
theorem dl_484 : decode code 484 = .ok (.iconst 1, 1) := by decide +kernel
theorem dl_485 : decode code 485 = .ok (.iadd, 1) := by decide +kernel
theorem dl_486 : decode code 486 = .ok (.iaload, 1) := by decide +kernel
theorem dl_487 : decode code 487 = .ok (.invokevirtual 56, 3) := by decide +kernel
theorem dl_490 : decode code 490 = .ok (.aload_n 2, 1) := by decide +kernel
theorem dl_491 : decode code 491 = .ok (.aload_n 0, 1) := by decide +kernel
theorem dl_492 : decode code 492 = .ok (.iload 4, 2) := by decide +kernel
theorem dl_494 : decode code 494 = .ok (.iconst 1, 1) := by decide +kernel
theorem dl_495 : decode code 495 = .ok (.iadd, 1) := by decide +kernel
theorem dl_496 : decode code 496 = .ok (.iaload, 1) := by decide +kernel
theorem dl_497 : decode code 497 = .ok (.invokevirtual 59, 3) := by decide +kernel
theorem dl_500 : decode code 500 = .ok (.if_icmp .eq 489, 3) := by decide +kernel
theorem dl_503 : decode code 503 = .ok (.iconst 0, 1) := by decide +kernel
theorem dl_504 : decode code 504 = .ok (.ireturn, 1) := by decide +kernel
theorem dl_505 : decode code 505 = .ok (.aload_n 1, 1) := by decide +kernel
theorem dl_506 : decode code 506 = .ok (.aload_n 0, 1) := by decide +kernel
theorem dl_507 : decode code 507 = .ok (.iload 4, 2) := by decide +kernel
theorem dl_509 : decode code 509 = .ok (.iconst 1, 1) := by decide +kernel
theorem dl_510 : decode code 510 = .ok (.iadd, 1) := by decide +kernel
theorem dl_511 : decode code 511 = .ok (.iaload, 1) := by decide +kernel
theorem dl_512 : decode code 512 = .ok (.aload_n 0, 1) := by decide +kernel
theorem dl_513 : decode code 513 = .ok (.iload 4, 2) := by decide +kernel
theorem dl_515 : decode code 515 = .ok (.iconst 2, 1) := by decide +kernel
theorem dl_516 : decode code 516 = .ok (.iadd, 1) := by decide +kernel
theorem dl_517 : decode code 517 = .ok (.iaload, 1) := by decide +kernel
theorem dl_518 : decode code 518 = .ok (.aload_n 0, 1) := by decide +kernel
theorem dl_519 : decode code 519 = .ok (.iload 4, 2) := by decide +kernel
theorem dl_521 : decode code 521 = .ok (.iconst 3, 1) := by decide +kernel
theorem dl_522 : decode code 522 = .ok (.iadd, 1) := by decide +kernel
theorem dl_523 : decode code 523 = .ok (.iaload, 1) := by decide +kernel
theorem dl_524 : decode code 524 = .ok (.invokevirtual 60, 3) := by decide +kernel
theorem dl_527 : decode code 527 = .ok (.aload_n 2, 1) := by decide +kernel
theorem dl_528 : decode code 528 = .ok (.aload_n 0, 1) := by decide +kernel
theorem dl_529 : decode code 529 = .ok (.iload 4, 2) := by decide +kernel
theorem dl_531 : decode code 531 = .ok (.iconst 1, 1) := by decide +kernel
theorem dl_532 : decode code 532 = .ok (.iadd, 1) := by decide +kernel
theorem dl_533 : decode code 533 = .ok (.iaload, 1) := by decide +kernel
theorem dl_534 : decode code 534 = .ok (.aload_n 0, 1) := by decide +kernel
theorem dl_535 : decode code 535 = .ok (.iload 4, 2) := by decide +kernel
theorem dl_537 : decode code 537 = .ok (.iconst 2, 1) := by decide +kernel
theorem dl_538 : decode code 538 = .ok (.iadd, 1) := by decide +kernel
theorem dl_539 : decode code 539 = .ok (.iaload, 1) := by decide +kernel
theorem dl_540 : decode code 540 = .ok (.aload_n 0, 1) := by decide +kernel
theorem dl_541 : decode code 541 = .ok (.iload 4, 2) := by decide +kernel
theorem dl_543 : decode code 543 = .ok (.iconst 3, 1) := by decide +kernel
theorem dl_544 : decode code 544 = .ok (.iadd, 1) := by decide +kernel
theorem dl_545 : decode code 545 = .ok (.iaload, 1) := by decide +kernel
theorem dl_546 : decode code 546 = .ok (.invokevirtual 63, 3) := by decide +kernel
theorem dl_549 : decode code 549 = .ok (.if_icmp .eq 440, 3) := by decide +kernel
theorem dl_552 : decode code 552 = .ok (.iconst 0, 1) := by decide +kernel
