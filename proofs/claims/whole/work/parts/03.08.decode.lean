theorem d_LW_law_338 : decode b_LW_law 338 = .ok (.iload 4, 2) := by decide +kernel
theorem d_LW_law_340 : decode b_LW_law 340 = .ok (.iconst 3, 1) := by decide +kernel
theorem d_LW_law_341 : decode b_LW_law 341 = .ok (.iadd, 1) := by decide +kernel
theorem d_LW_law_342 : decode b_LW_law 342 = .ok (.iaload, 1) := by decide +kernel
theorem d_LW_law_343 : decode b_LW_law 343 = .ok (.aload_n 0, 1) := by decide +kernel
theorem d_LW_law_344 : decode b_LW_law 344 = .ok (.iload 4, 2) := by decide +kernel
theorem d_LW_law_346 : decode b_LW_law 346 = .ok (.iconst 4, 1) := by decide +kernel
theorem d_LW_law_347 : decode b_LW_law 347 = .ok (.iadd, 1) := by decide +kernel
theorem d_LW_law_348 : decode b_LW_law 348 = .ok (.iaload, 1) := by decide +kernel
theorem d_LW_law_349 : decode b_LW_law 349 = .ok (.ifCond .eq 7, 3) := by decide +kernel
theorem d_LW_law_352 : decode b_LW_law 352 = .ok (.iconst 1, 1) := by decide +kernel
theorem d_LW_law_353 : decode b_LW_law 353 = .ok (.goto 4, 3) := by decide +kernel
theorem d_LW_law_356 : decode b_LW_law 356 = .ok (.iconst 0, 1) := by decide +kernel
theorem d_LW_law_357 : decode b_LW_law 357 = .ok (.invokestatic 98, 3) := by decide +kernel
theorem d_LW_law_360 : decode b_LW_law 360 = .ok (.istore 5, 2) := by decide +kernel
theorem d_LW_law_362 : decode b_LW_law 362 = .ok (.aload_n 2, 1) := by decide +kernel
theorem d_LW_law_363 : decode b_LW_law 363 = .ok (.aload_n 0, 1) := by decide +kernel
theorem d_LW_law_364 : decode b_LW_law 364 = .ok (.iload 4, 2) := by decide +kernel
theorem d_LW_law_366 : decode b_LW_law 366 = .ok (.iconst 1, 1) := by decide +kernel
theorem d_LW_law_367 : decode b_LW_law 367 = .ok (.iadd, 1) := by decide +kernel
theorem d_LW_law_368 : decode b_LW_law 368 = .ok (.iaload, 1) := by decide +kernel
theorem d_LW_law_369 : decode b_LW_law 369 = .ok (.aload_n 0, 1) := by decide +kernel
theorem d_LW_law_370 : decode b_LW_law 370 = .ok (.iload 4, 2) := by decide +kernel
theorem d_LW_law_372 : decode b_LW_law 372 = .ok (.iconst 2, 1) := by decide +kernel
theorem d_LW_law_373 : decode b_LW_law 373 = .ok (.iadd, 1) := by decide +kernel
theorem d_LW_law_374 : decode b_LW_law 374 = .ok (.iaload, 1) := by decide +kernel
theorem d_LW_law_375 : decode b_LW_law 375 = .ok (.aload_n 0, 1) := by decide +kernel
theorem d_LW_law_376 : decode b_LW_law 376 = .ok (.iload 4, 2) := by decide +kernel
theorem d_LW_law_378 : decode b_LW_law 378 = .ok (.iconst 3, 1) := by decide +kernel
theorem d_LW_law_379 : decode b_LW_law 379 = .ok (.iadd, 1) := by decide +kernel
theorem d_LW_law_380 : decode b_LW_law 380 = .ok (.iaload, 1) := by decide +kernel
theorem d_LW_law_381 : decode b_LW_law 381 = .ok (.aload_n 0, 1) := by decide +kernel
theorem d_LW_law_382 : decode b_LW_law 382 = .ok (.iload 4, 2) := by decide +kernel
theorem d_LW_law_384 : decode b_LW_law 384 = .ok (.iconst 4, 1) := by decide +kernel
theorem d_LW_law_385 : decode b_LW_law 385 = .ok (.iadd, 1) := by decide +kernel
theorem d_LW_law_386 : decode b_LW_law 386 = .ok (.iaload, 1) := by decide +kernel
theorem d_LW_law_387 : decode b_LW_law 387 = .ok (.ifCond .eq 7, 3) := by decide +kernel
theorem d_LW_law_390 : decode b_LW_law 390 = .ok (.iconst 1, 1) := by decide +kernel
theorem d_LW_law_391 : decode b_LW_law 391 = .ok (.goto 4, 3) := by decide +kernel
theorem d_LW_law_394 : decode b_LW_law 394 = .ok (.iconst 0, 1) := by decide +kernel
theorem d_LW_law_395 : decode b_LW_law 395 = .ok (.invokevirtual 101, 3) := by decide +kernel
theorem d_LW_law_398 : decode b_LW_law 398 = .ok (.aload_n 2, 1) := by decide +kernel
theorem d_LW_law_399 : decode b_LW_law 399 = .ok (.invokevirtual 87, 3) := by decide +kernel
theorem d_LW_law_402 : decode b_LW_law 402 = .ok (.iload 5, 2) := by decide +kernel
theorem d_LW_law_404 : decode b_LW_law 404 = .ok (.if_icmp .eq 5, 3) := by decide +kernel
theorem d_LW_law_407 : decode b_LW_law 407 = .ok (.iconst 0, 1) := by decide +kernel
theorem d_LW_law_408 : decode b_LW_law 408 = .ok (.ireturn, 1) := by decide +kernel
theorem d_LW_law_409 : decode b_LW_law 409 = .ok (.goto 993, 3) := by decide +kernel
theorem d_LW_law_412 : decode b_LW_law 412 = .ok (.aload_n 1, 1) := by decide +kernel
theorem d_LW_law_413 : decode b_LW_law 413 = .ok (.aload_n 0, 1) := by decide +kernel
theorem d_LW_law_414 : decode b_LW_law 414 = .ok (.iload 4, 2) := by decide +kernel
theorem d_LW_law_416 : decode b_LW_law 416 = .ok (.iconst 1, 1) := by decide +kernel
theorem d_LW_law_417 : decode b_LW_law 417 = .ok (.iadd, 1) := by decide +kernel
theorem d_LW_law_418 : decode b_LW_law 418 = .ok (.iaload, 1) := by decide +kernel
theorem d_LW_law_419 : decode b_LW_law 419 = .ok (.aload_n 0, 1) := by decide +kernel
theorem d_LW_law_420 : decode b_LW_law 420 = .ok (.iload 4, 2) := by decide +kernel
theorem d_LW_law_422 : decode b_LW_law 422 = .ok (.iconst 2, 1) := by decide +kernel
theorem d_LW_law_423 : decode b_LW_law 423 = .ok (.iadd, 1) := by decide +kernel
theorem d_LW_law_424 : decode b_LW_law 424 = .ok (.iaload, 1) := by decide +kernel
theorem d_LW_law_425 : decode b_LW_law 425 = .ok (.aload_n 0, 1) := by decide +kernel
theorem d_LW_law_426 : decode b_LW_law 426 = .ok (.iload 4, 2) := by decide +kernel
theorem d_LW_law_428 : decode b_LW_law 428 = .ok (.iconst 3, 1) := by decide +kernel
theorem d_LW_law_429 : decode b_LW_law 429 = .ok (.iadd, 1) := by decide +kernel
theorem d_LW_law_430 : decode b_LW_law 430 = .ok (.iaload, 1) := by decide +kernel
theorem d_LW_law_431 : decode b_LW_law 431 = .ok (.aload_n 0, 1) := by decide +kernel
theorem d_LW_law_432 : decode b_LW_law 432 = .ok (.iload 4, 2) := by decide +kernel
theorem d_LW_law_434 : decode b_LW_law 434 = .ok (.iconst 4, 1) := by decide +kernel
theorem d_LW_law_435 : decode b_LW_law 435 = .ok (.iadd, 1) := by decide +kernel
theorem d_LW_law_436 : decode b_LW_law 436 = .ok (.iaload, 1) := by decide +kernel
theorem d_LW_law_437 : decode b_LW_law 437 = .ok (.invokestatic 102, 3) := by decide +kernel
theorem d_LW_law_440 : decode b_LW_law 440 = .ok (.istore 5, 2) := by decide +kernel
theorem d_LW_law_442 : decode b_LW_law 442 = .ok (.aload_n 2, 1) := by decide +kernel
theorem d_LW_law_443 : decode b_LW_law 443 = .ok (.aload_n 0, 1) := by decide +kernel
theorem d_LW_law_444 : decode b_LW_law 444 = .ok (.iload 4, 2) := by decide +kernel
theorem d_LW_law_446 : decode b_LW_law 446 = .ok (.iconst 1, 1) := by decide +kernel
theorem d_LW_law_447 : decode b_LW_law 447 = .ok (.iadd, 1) := by decide +kernel
theorem d_LW_law_448 : decode b_LW_law 448 = .ok (.iaload, 1) := by decide +kernel
theorem d_LW_law_449 : decode b_LW_law 449 = .ok (.aload_n 0, 1) := by decide +kernel
theorem d_LW_law_450 : decode b_LW_law 450 = .ok (.iload 4, 2) := by decide +kernel
theorem d_LW_law_452 : decode b_LW_law 452 = .ok (.iconst 2, 1) := by decide +kernel
theorem d_LW_law_453 : decode b_LW_law 453 = .ok (.iadd, 1) := by decide +kernel
theorem d_LW_law_454 : decode b_LW_law 454 = .ok (.iaload, 1) := by decide +kernel
theorem d_LW_law_455 : decode b_LW_law 455 = .ok (.aload_n 0, 1) := by decide +kernel
theorem d_LW_law_456 : decode b_LW_law 456 = .ok (.iload 4, 2) := by decide +kernel
theorem d_LW_law_458 : decode b_LW_law 458 = .ok (.iconst 3, 1) := by decide +kernel
theorem d_LW_law_459 : decode b_LW_law 459 = .ok (.iadd, 1) := by decide +kernel
theorem d_LW_law_460 : decode b_LW_law 460 = .ok (.iaload, 1) := by decide +kernel
theorem d_LW_law_461 : decode b_LW_law 461 = .ok (.aload_n 0, 1) := by decide +kernel
theorem d_LW_law_462 : decode b_LW_law 462 = .ok (.iload 4, 2) := by decide +kernel
theorem d_LW_law_464 : decode b_LW_law 464 = .ok (.iconst 4, 1) := by decide +kernel
theorem d_LW_law_465 : decode b_LW_law 465 = .ok (.iadd, 1) := by decide +kernel
theorem d_LW_law_466 : decode b_LW_law 466 = .ok (.iaload, 1) := by decide +kernel
theorem d_LW_law_467 : decode b_LW_law 467 = .ok (.invokevirtual 104, 3) := by decide +kernel
theorem d_LW_law_470 : decode b_LW_law 470 = .ok (.aload_n 2, 1) := by decide +kernel
theorem d_LW_law_471 : decode b_LW_law 471 = .ok (.invokevirtual 87, 3) := by decide +kernel
theorem d_LW_law_474 : decode b_LW_law 474 = .ok (.iload 5, 2) := by decide +kernel
theorem d_LW_law_476 : decode b_LW_law 476 = .ok (.if_icmp .eq 5, 3) := by decide +kernel
theorem d_LW_law_479 : decode b_LW_law 479 = .ok (.iconst 0, 1) := by decide +kernel
theorem d_LW_law_480 : decode b_LW_law 480 = .ok (.ireturn, 1) := by decide +kernel
theorem d_LW_law_481 : decode b_LW_law 481 = .ok (.goto 921, 3) := by decide +kernel
theorem d_LW_law_484 : decode b_LW_law 484 = .ok (.aload_n 1, 1) := by decide +kernel
theorem d_LW_law_485 : decode b_LW_law 485 = .ok (.aload_n 0, 1) := by decide +kernel
theorem d_LW_law_486 : decode b_LW_law 486 = .ok (.iload 4, 2) := by decide +kernel
theorem d_LW_law_488 : decode b_LW_law 488 = .ok (.iconst 1, 1) := by decide +kernel
theorem d_LW_law_489 : decode b_LW_law 489 = .ok (.iadd, 1) := by decide +kernel
theorem d_LW_law_490 : decode b_LW_law 490 = .ok (.iaload, 1) := by decide +kernel
theorem d_LW_law_491 : decode b_LW_law 491 = .ok (.aload_n 0, 1) := by decide +kernel
theorem d_LW_law_492 : decode b_LW_law 492 = .ok (.iload 4, 2) := by decide +kernel
theorem d_LW_law_494 : decode b_LW_law 494 = .ok (.iconst 2, 1) := by decide +kernel
theorem d_LW_law_495 : decode b_LW_law 495 = .ok (.iadd, 1) := by decide +kernel
theorem d_LW_law_496 : decode b_LW_law 496 = .ok (.iaload, 1) := by decide +kernel
theorem d_LW_law_497 : decode b_LW_law 497 = .ok (.aload_n 0, 1) := by decide +kernel
theorem d_LW_law_498 : decode b_LW_law 498 = .ok (.iload 4, 2) := by decide +kernel
theorem d_LW_law_500 : decode b_LW_law 500 = .ok (.iconst 3, 1) := by decide +kernel
theorem d_LW_law_501 : decode b_LW_law 501 = .ok (.iadd, 1) := by decide +kernel
theorem d_LW_law_502 : decode b_LW_law 502 = .ok (.iaload, 1) := by decide +kernel
theorem d_LW_law_503 : decode b_LW_law 503 = .ok (.aload_n 0, 1) := by decide +kernel
theorem d_LW_law_504 : decode b_LW_law 504 = .ok (.iload 4, 2) := by decide +kernel
theorem d_LW_law_506 : decode b_LW_law 506 = .ok (.iconst 4, 1) := by decide +kernel
theorem d_LW_law_507 : decode b_LW_law 507 = .ok (.iadd, 1) := by decide +kernel
theorem d_LW_law_508 : decode b_LW_law 508 = .ok (.iaload, 1) := by decide +kernel
theorem d_LW_law_509 : decode b_LW_law 509 = .ok (.ifCond .eq 7, 3) := by decide +kernel
theorem d_LW_law_512 : decode b_LW_law 512 = .ok (.iconst 1, 1) := by decide +kernel
theorem d_LW_law_513 : decode b_LW_law 513 = .ok (.goto 4, 3) := by decide +kernel
theorem d_LW_law_516 : decode b_LW_law 516 = .ok (.iconst 0, 1) := by decide +kernel
theorem d_LW_law_517 : decode b_LW_law 517 = .ok (.invokestatic 105, 3) := by decide +kernel
theorem d_LW_law_520 : decode b_LW_law 520 = .ok (.istore 5, 2) := by decide +kernel
theorem d_LW_law_522 : decode b_LW_law 522 = .ok (.aload_n 2, 1) := by decide +kernel
theorem d_LW_law_523 : decode b_LW_law 523 = .ok (.aload_n 0, 1) := by decide +kernel
theorem d_LW_law_524 : decode b_LW_law 524 = .ok (.iload 4, 2) := by decide +kernel
theorem d_LW_law_526 : decode b_LW_law 526 = .ok (.iconst 1, 1) := by decide +kernel
theorem d_LW_law_527 : decode b_LW_law 527 = .ok (.iadd, 1) := by decide +kernel
theorem d_LW_law_528 : decode b_LW_law 528 = .ok (.iaload, 1) := by decide +kernel
theorem d_LW_law_529 : decode b_LW_law 529 = .ok (.aload_n 0, 1) := by decide +kernel
theorem d_LW_law_530 : decode b_LW_law 530 = .ok (.iload 4, 2) := by decide +kernel
theorem d_LW_law_532 : decode b_LW_law 532 = .ok (.iconst 2, 1) := by decide +kernel
theorem d_LW_law_533 : decode b_LW_law 533 = .ok (.iadd, 1) := by decide +kernel
theorem d_LW_law_534 : decode b_LW_law 534 = .ok (.iaload, 1) := by decide +kernel
theorem d_LW_law_535 : decode b_LW_law 535 = .ok (.aload_n 0, 1) := by decide +kernel
theorem d_LW_law_536 : decode b_LW_law 536 = .ok (.iload 4, 2) := by decide +kernel
theorem d_LW_law_538 : decode b_LW_law 538 = .ok (.iconst 3, 1) := by decide +kernel
theorem d_LW_law_539 : decode b_LW_law 539 = .ok (.iadd, 1) := by decide +kernel
theorem d_LW_law_540 : decode b_LW_law 540 = .ok (.iaload, 1) := by decide +kernel
theorem d_LW_law_541 : decode b_LW_law 541 = .ok (.aload_n 0, 1) := by decide +kernel
theorem d_LW_law_542 : decode b_LW_law 542 = .ok (.iload 4, 2) := by decide +kernel
theorem d_LW_law_544 : decode b_LW_law 544 = .ok (.iconst 4, 1) := by decide +kernel
theorem d_LW_law_545 : decode b_LW_law 545 = .ok (.iadd, 1) := by decide +kernel
theorem d_LW_law_546 : decode b_LW_law 546 = .ok (.iaload, 1) := by decide +kernel
theorem d_LW_law_547 : decode b_LW_law 547 = .ok (.ifCond .eq 7, 3) := by decide +kernel
theorem d_LW_law_550 : decode b_LW_law 550 = .ok (.iconst 1, 1) := by decide +kernel
theorem d_LW_law_551 : decode b_LW_law 551 = .ok (.goto 4, 3) := by decide +kernel
theorem d_LW_law_554 : decode b_LW_law 554 = .ok (.iconst 0, 1) := by decide +kernel
theorem d_LW_law_555 : decode b_LW_law 555 = .ok (.invokevirtual 107, 3) := by decide +kernel
theorem d_LW_law_558 : decode b_LW_law 558 = .ok (.aload_n 2, 1) := by decide +kernel
theorem d_LW_law_559 : decode b_LW_law 559 = .ok (.invokevirtual 87, 3) := by decide +kernel
theorem d_LW_law_562 : decode b_LW_law 562 = .ok (.iload 5, 2) := by decide +kernel
theorem d_LW_law_564 : decode b_LW_law 564 = .ok (.if_icmp .eq 5, 3) := by decide +kernel
theorem d_LW_law_567 : decode b_LW_law 567 = .ok (.iconst 0, 1) := by decide +kernel
theorem d_LW_law_568 : decode b_LW_law 568 = .ok (.ireturn, 1) := by decide +kernel
theorem d_LW_law_569 : decode b_LW_law 569 = .ok (.goto 833, 3) := by decide +kernel
theorem d_LW_law_572 : decode b_LW_law 572 = .ok (.aload_n 1, 1) := by decide +kernel
theorem d_LW_law_573 : decode b_LW_law 573 = .ok (.aload_n 0, 1) := by decide +kernel
theorem d_LW_law_574 : decode b_LW_law 574 = .ok (.iload 4, 2) := by decide +kernel
theorem d_LW_law_576 : decode b_LW_law 576 = .ok (.iconst 1, 1) := by decide +kernel
theorem d_LW_law_577 : decode b_LW_law 577 = .ok (.iadd, 1) := by decide +kernel
theorem d_LW_law_578 : decode b_LW_law 578 = .ok (.iaload, 1) := by decide +kernel
theorem d_LW_law_579 : decode b_LW_law 579 = .ok (.i2l, 1) := by decide +kernel
theorem d_LW_law_580 : decode b_LW_law 580 = .ok (.bipush 32, 2) := by decide +kernel
theorem d_LW_law_582 : decode b_LW_law 582 = .ok (.lshl, 1) := by decide +kernel
theorem d_LW_law_583 : decode b_LW_law 583 = .ok (.aload_n 0, 1) := by decide +kernel
theorem d_LW_law_584 : decode b_LW_law 584 = .ok (.iload 4, 2) := by decide +kernel
theorem d_LW_law_586 : decode b_LW_law 586 = .ok (.iconst 2, 1) := by decide +kernel
theorem d_LW_law_587 : decode b_LW_law 587 = .ok (.iadd, 1) := by decide +kernel
theorem d_LW_law_588 : decode b_LW_law 588 = .ok (.iaload, 1) := by decide +kernel
theorem d_LW_law_589 : decode b_LW_law 589 = .ok (.i2l, 1) := by decide +kernel
theorem d_LW_law_590 : decode b_LW_law 590 = .ok (.ldc2_w 108, 3) := by decide +kernel
theorem d_LW_law_593 : decode b_LW_law 593 = .ok (.land, 1) := by decide +kernel
theorem d_LW_law_594 : decode b_LW_law 594 = .ok (.lor, 1) := by decide +kernel
theorem d_LW_law_595 : decode b_LW_law 595 = .ok (.aload_n 0, 1) := by decide +kernel
theorem d_LW_law_596 : decode b_LW_law 596 = .ok (.iload 4, 2) := by decide +kernel
theorem d_LW_law_598 : decode b_LW_law 598 = .ok (.iconst 3, 1) := by decide +kernel
theorem d_LW_law_599 : decode b_LW_law 599 = .ok (.iadd, 1) := by decide +kernel
theorem d_LW_law_600 : decode b_LW_law 600 = .ok (.iaload, 1) := by decide +kernel
theorem d_LW_law_601 : decode b_LW_law 601 = .ok (.aload_n 3, 1) := by decide +kernel
theorem d_LW_law_602 : decode b_LW_law 602 = .ok (.invokestatic 110, 3) := by decide +kernel
theorem d_LW_law_605 : decode b_LW_law 605 = .ok (.istore 5, 2) := by decide +kernel
theorem d_LW_law_607 : decode b_LW_law 607 = .ok (.aload_n 2, 1) := by decide +kernel
theorem d_LW_law_608 : decode b_LW_law 608 = .ok (.aload_n 0, 1) := by decide +kernel
theorem d_LW_law_609 : decode b_LW_law 609 = .ok (.iload 4, 2) := by decide +kernel
theorem d_LW_law_611 : decode b_LW_law 611 = .ok (.iconst 1, 1) := by decide +kernel
theorem d_LW_law_612 : decode b_LW_law 612 = .ok (.iadd, 1) := by decide +kernel
theorem d_LW_law_613 : decode b_LW_law 613 = .ok (.iaload, 1) := by decide +kernel
theorem d_LW_law_614 : decode b_LW_law 614 = .ok (.i2l, 1) := by decide +kernel
theorem d_LW_law_615 : decode b_LW_law 615 = .ok (.bipush 32, 2) := by decide +kernel
theorem d_LW_law_617 : decode b_LW_law 617 = .ok (.lshl, 1) := by decide +kernel
theorem d_LW_law_618 : decode b_LW_law 618 = .ok (.aload_n 0, 1) := by decide +kernel
theorem d_LW_law_619 : decode b_LW_law 619 = .ok (.iload 4, 2) := by decide +kernel
theorem d_LW_law_621 : decode b_LW_law 621 = .ok (.iconst 2, 1) := by decide +kernel
theorem d_LW_law_622 : decode b_LW_law 622 = .ok (.iadd, 1) := by decide +kernel
theorem d_LW_law_623 : decode b_LW_law 623 = .ok (.iaload, 1) := by decide +kernel
theorem d_LW_law_624 : decode b_LW_law 624 = .ok (.i2l, 1) := by decide +kernel
theorem d_LW_law_625 : decode b_LW_law 625 = .ok (.ldc2_w 108, 3) := by decide +kernel
theorem d_LW_law_628 : decode b_LW_law 628 = .ok (.land, 1) := by decide +kernel
theorem d_LW_law_629 : decode b_LW_law 629 = .ok (.lor, 1) := by decide +kernel
theorem d_LW_law_630 : decode b_LW_law 630 = .ok (.aload_n 0, 1) := by decide +kernel
theorem d_LW_law_631 : decode b_LW_law 631 = .ok (.iload 4, 2) := by decide +kernel
theorem d_LW_law_633 : decode b_LW_law 633 = .ok (.iconst 3, 1) := by decide +kernel
theorem d_LW_law_634 : decode b_LW_law 634 = .ok (.iadd, 1) := by decide +kernel
theorem d_LW_law_635 : decode b_LW_law 635 = .ok (.iaload, 1) := by decide +kernel
theorem d_LW_law_636 : decode b_LW_law 636 = .ok (.invokevirtual 113, 3) := by decide +kernel
theorem d_LW_law_639 : decode b_LW_law 639 = .ok (.istore 6, 2) := by decide +kernel
theorem d_LW_law_641 : decode b_LW_law 641 = .ok (.aload_n 2, 1) := by decide +kernel
theorem d_LW_law_642 : decode b_LW_law 642 = .ok (.invokevirtual 87, 3) := by decide +kernel
theorem d_LW_law_645 : decode b_LW_law 645 = .ok (.iload 5, 2) := by decide +kernel
theorem d_LW_law_647 : decode b_LW_law 647 = .ok (.if_icmp .eq 5, 3) := by decide +kernel
theorem d_LW_law_650 : decode b_LW_law 650 = .ok (.iconst 0, 1) := by decide +kernel
theorem d_LW_law_651 : decode b_LW_law 651 = .ok (.ireturn, 1) := by decide +kernel
theorem d_LW_law_652 : decode b_LW_law 652 = .ok (.iload 5, 2) := by decide +kernel
theorem d_LW_law_654 : decode b_LW_law 654 = .ok (.ifCond .ne 15, 3) := by decide +kernel
theorem d_LW_law_657 : decode b_LW_law 657 = .ok (.aload_n 3, 1) := by decide +kernel
theorem d_LW_law_658 : decode b_LW_law 658 = .ok (.iconst 0, 1) := by decide +kernel
theorem d_LW_law_659 : decode b_LW_law 659 = .ok (.laload, 1) := by decide +kernel
theorem d_LW_law_660 : decode b_LW_law 660 = .ok (.iload 6, 2) := by decide +kernel
theorem d_LW_law_662 : decode b_LW_law 662 = .ok (.i2l, 1) := by decide +kernel
theorem d_LW_law_663 : decode b_LW_law 663 = .ok (.lcmp, 1) := by decide +kernel
theorem d_LW_law_664 : decode b_LW_law 664 = .ok (.ifCond .eq 5, 3) := by decide +kernel
theorem d_LW_law_667 : decode b_LW_law 667 = .ok (.iconst 0, 1) := by decide +kernel
theorem d_LW_law_668 : decode b_LW_law 668 = .ok (.ireturn, 1) := by decide +kernel
theorem d_LW_law_669 : decode b_LW_law 669 = .ok (.goto 733, 3) := by decide +kernel
theorem d_LW_law_672 : decode b_LW_law 672 = .ok (.aload_n 1, 1) := by decide +kernel
theorem d_LW_law_673 : decode b_LW_law 673 = .ok (.aload_n 0, 1) := by decide +kernel
theorem d_LW_law_674 : decode b_LW_law 674 = .ok (.iload 4, 2) := by decide +kernel
theorem d_LW_law_676 : decode b_LW_law 676 = .ok (.iconst 1, 1) := by decide +kernel
theorem d_LW_law_677 : decode b_LW_law 677 = .ok (.iadd, 1) := by decide +kernel
theorem d_LW_law_678 : decode b_LW_law 678 = .ok (.iaload, 1) := by decide +kernel
theorem d_LW_law_679 : decode b_LW_law 679 = .ok (.aload_n 3, 1) := by decide +kernel
theorem d_LW_law_680 : decode b_LW_law 680 = .ok (.invokestatic 114, 3) := by decide +kernel
theorem d_LW_law_683 : decode b_LW_law 683 = .ok (.istore 5, 2) := by decide +kernel
theorem d_LW_law_685 : decode b_LW_law 685 = .ok (.aload_n 2, 1) := by decide +kernel
theorem d_LW_law_686 : decode b_LW_law 686 = .ok (.aload_n 0, 1) := by decide +kernel
theorem d_LW_law_687 : decode b_LW_law 687 = .ok (.iload 4, 2) := by decide +kernel
theorem d_LW_law_689 : decode b_LW_law 689 = .ok (.iconst 1, 1) := by decide +kernel
theorem d_LW_law_690 : decode b_LW_law 690 = .ok (.iadd, 1) := by decide +kernel
theorem d_LW_law_691 : decode b_LW_law 691 = .ok (.iaload, 1) := by decide +kernel
theorem d_LW_law_692 : decode b_LW_law 692 = .ok (.invokevirtual 117, 3) := by decide +kernel
theorem d_LW_law_695 : decode b_LW_law 695 = .ok (.istore 6, 2) := by decide +kernel
theorem d_LW_law_697 : decode b_LW_law 697 = .ok (.aload_n 2, 1) := by decide +kernel
theorem d_LW_law_698 : decode b_LW_law 698 = .ok (.invokevirtual 87, 3) := by decide +kernel
theorem d_LW_law_701 : decode b_LW_law 701 = .ok (.iload 5, 2) := by decide +kernel
theorem d_LW_law_703 : decode b_LW_law 703 = .ok (.if_icmp .eq 5, 3) := by decide +kernel
theorem d_LW_law_706 : decode b_LW_law 706 = .ok (.iconst 0, 1) := by decide +kernel
theorem d_LW_law_707 : decode b_LW_law 707 = .ok (.ireturn, 1) := by decide +kernel
theorem d_LW_law_708 : decode b_LW_law 708 = .ok (.iload 5, 2) := by decide +kernel
theorem d_LW_law_710 : decode b_LW_law 710 = .ok (.ifCond .ne 15, 3) := by decide +kernel
theorem d_LW_law_713 : decode b_LW_law 713 = .ok (.aload_n 3, 1) := by decide +kernel
theorem d_LW_law_714 : decode b_LW_law 714 = .ok (.iconst 0, 1) := by decide +kernel
theorem d_LW_law_715 : decode b_LW_law 715 = .ok (.laload, 1) := by decide +kernel
theorem d_LW_law_716 : decode b_LW_law 716 = .ok (.iload 6, 2) := by decide +kernel
theorem d_LW_law_718 : decode b_LW_law 718 = .ok (.i2l, 1) := by decide +kernel
theorem d_LW_law_719 : decode b_LW_law 719 = .ok (.lcmp, 1) := by decide +kernel
theorem d_LW_law_720 : decode b_LW_law 720 = .ok (.ifCond .eq 5, 3) := by decide +kernel
theorem d_LW_law_723 : decode b_LW_law 723 = .ok (.iconst 0, 1) := by decide +kernel
theorem d_LW_law_724 : decode b_LW_law 724 = .ok (.ireturn, 1) := by decide +kernel
theorem d_LW_law_725 : decode b_LW_law 725 = .ok (.goto 677, 3) := by decide +kernel
theorem d_LW_law_728 : decode b_LW_law 728 = .ok (.aload_n 1, 1) := by decide +kernel
theorem d_LW_law_729 : decode b_LW_law 729 = .ok (.aload_n 0, 1) := by decide +kernel
theorem d_LW_law_730 : decode b_LW_law 730 = .ok (.iload 4, 2) := by decide +kernel
theorem d_LW_law_732 : decode b_LW_law 732 = .ok (.iconst 1, 1) := by decide +kernel
theorem d_LW_law_733 : decode b_LW_law 733 = .ok (.iadd, 1) := by decide +kernel
theorem d_LW_law_734 : decode b_LW_law 734 = .ok (.iaload, 1) := by decide +kernel
theorem d_LW_law_735 : decode b_LW_law 735 = .ok (.aload_n 3, 1) := by decide +kernel
theorem d_LW_law_736 : decode b_LW_law 736 = .ok (.invokestatic 118, 3) := by decide +kernel
theorem d_LW_law_739 : decode b_LW_law 739 = .ok (.istore 5, 2) := by decide +kernel
theorem d_LW_law_741 : decode b_LW_law 741 = .ok (.aload_n 2, 1) := by decide +kernel
theorem d_LW_law_742 : decode b_LW_law 742 = .ok (.aload_n 0, 1) := by decide +kernel
theorem d_LW_law_743 : decode b_LW_law 743 = .ok (.iload 4, 2) := by decide +kernel
theorem d_LW_law_745 : decode b_LW_law 745 = .ok (.iconst 1, 1) := by decide +kernel
theorem d_LW_law_746 : decode b_LW_law 746 = .ok (.iadd, 1) := by decide +kernel
theorem d_LW_law_747 : decode b_LW_law 747 = .ok (.iaload, 1) := by decide +kernel
theorem d_LW_law_748 : decode b_LW_law 748 = .ok (.invokevirtual 120, 3) := by decide +kernel
theorem d_LW_law_751 : decode b_LW_law 751 = .ok (.istore 6, 2) := by decide +kernel
theorem d_LW_law_753 : decode b_LW_law 753 = .ok (.aload_n 2, 1) := by decide +kernel
theorem d_LW_law_754 : decode b_LW_law 754 = .ok (.invokevirtual 87, 3) := by decide +kernel
theorem d_LW_law_757 : decode b_LW_law 757 = .ok (.iload 5, 2) := by decide +kernel
theorem d_LW_law_759 : decode b_LW_law 759 = .ok (.if_icmp .eq 5, 3) := by decide +kernel
theorem d_LW_law_762 : decode b_LW_law 762 = .ok (.iconst 0, 1) := by decide +kernel
theorem d_LW_law_763 : decode b_LW_law 763 = .ok (.ireturn, 1) := by decide +kernel
theorem d_LW_law_764 : decode b_LW_law 764 = .ok (.iload 5, 2) := by decide +kernel
theorem d_LW_law_766 : decode b_LW_law 766 = .ok (.ifCond .ne 22, 3) := by decide +kernel
theorem d_LW_law_769 : decode b_LW_law 769 = .ok (.aload_n 3, 1) := by decide +kernel
theorem d_LW_law_770 : decode b_LW_law 770 = .ok (.iconst 0, 1) := by decide +kernel
theorem d_LW_law_771 : decode b_LW_law 771 = .ok (.laload, 1) := by decide +kernel
theorem d_LW_law_772 : decode b_LW_law 772 = .ok (.iload 6, 2) := by decide +kernel
theorem d_LW_law_774 : decode b_LW_law 774 = .ok (.ifCond .eq 7, 3) := by decide +kernel
theorem d_LW_law_777 : decode b_LW_law 777 = .ok (.lconst 1, 1) := by decide +kernel
theorem d_LW_law_778 : decode b_LW_law 778 = .ok (.goto 4, 3) := by decide +kernel
theorem d_LW_law_781 : decode b_LW_law 781 = .ok (.lconst 0, 1) := by decide +kernel
theorem d_LW_law_782 : decode b_LW_law 782 = .ok (.lcmp, 1) := by decide +kernel
theorem d_LW_law_783 : decode b_LW_law 783 = .ok (.ifCond .eq 5, 3) := by decide +kernel
theorem d_LW_law_786 : decode b_LW_law 786 = .ok (.iconst 0, 1) := by decide +kernel
theorem d_LW_law_787 : decode b_LW_law 787 = .ok (.ireturn, 1) := by decide +kernel
theorem d_LW_law_788 : decode b_LW_law 788 = .ok (.goto 614, 3) := by decide +kernel
theorem d_LW_law_791 : decode b_LW_law 791 = .ok (.aload_n 1, 1) := by decide +kernel
theorem d_LW_law_792 : decode b_LW_law 792 = .ok (.aload_n 0, 1) := by decide +kernel
theorem d_LW_law_793 : decode b_LW_law 793 = .ok (.iload 4, 2) := by decide +kernel
theorem d_LW_law_795 : decode b_LW_law 795 = .ok (.iconst 1, 1) := by decide +kernel
theorem d_LW_law_796 : decode b_LW_law 796 = .ok (.iadd, 1) := by decide +kernel
theorem d_LW_law_797 : decode b_LW_law 797 = .ok (.iaload, 1) := by decide +kernel
theorem d_LW_law_798 : decode b_LW_law 798 = .ok (.aload_n 0, 1) := by decide +kernel
theorem d_LW_law_799 : decode b_LW_law 799 = .ok (.iload 4, 2) := by decide +kernel
theorem d_LW_law_801 : decode b_LW_law 801 = .ok (.iconst 2, 1) := by decide +kernel
theorem d_LW_law_802 : decode b_LW_law 802 = .ok (.iadd, 1) := by decide +kernel
theorem d_LW_law_803 : decode b_LW_law 803 = .ok (.iaload, 1) := by decide +kernel
theorem d_LW_law_804 : decode b_LW_law 804 = .ok (.aload_n 3, 1) := by decide +kernel
theorem d_LW_law_805 : decode b_LW_law 805 = .ok (.invokestatic 121, 3) := by decide +kernel
theorem d_LW_law_808 : decode b_LW_law 808 = .ok (.istore 5, 2) := by decide +kernel
theorem d_LW_law_810 : decode b_LW_law 810 = .ok (.aload_n 2, 1) := by decide +kernel
theorem d_LW_law_811 : decode b_LW_law 811 = .ok (.aload_n 0, 1) := by decide +kernel
theorem d_LW_law_812 : decode b_LW_law 812 = .ok (.iload 4, 2) := by decide +kernel
theorem d_LW_law_814 : decode b_LW_law 814 = .ok (.iconst 1, 1) := by decide +kernel
theorem d_LW_law_815 : decode b_LW_law 815 = .ok (.iadd, 1) := by decide +kernel
theorem d_LW_law_816 : decode b_LW_law 816 = .ok (.iaload, 1) := by decide +kernel
theorem d_LW_law_817 : decode b_LW_law 817 = .ok (.aload_n 0, 1) := by decide +kernel
theorem d_LW_law_818 : decode b_LW_law 818 = .ok (.iload 4, 2) := by decide +kernel
theorem d_LW_law_820 : decode b_LW_law 820 = .ok (.iconst 2, 1) := by decide +kernel
theorem d_LW_law_821 : decode b_LW_law 821 = .ok (.iadd, 1) := by decide +kernel
theorem d_LW_law_822 : decode b_LW_law 822 = .ok (.iaload, 1) := by decide +kernel
theorem d_LW_law_823 : decode b_LW_law 823 = .ok (.invokevirtual 124, 3) := by decide +kernel
theorem d_LW_law_826 : decode b_LW_law 826 = .ok (.istore 6, 2) := by decide +kernel
theorem d_LW_law_828 : decode b_LW_law 828 = .ok (.aload_n 2, 1) := by decide +kernel
theorem d_LW_law_829 : decode b_LW_law 829 = .ok (.invokevirtual 87, 3) := by decide +kernel
theorem d_LW_law_832 : decode b_LW_law 832 = .ok (.iload 5, 2) := by decide +kernel
theorem d_LW_law_834 : decode b_LW_law 834 = .ok (.if_icmp .eq 5, 3) := by decide +kernel
theorem d_LW_law_837 : decode b_LW_law 837 = .ok (.iconst 0, 1) := by decide +kernel
theorem d_LW_law_838 : decode b_LW_law 838 = .ok (.ireturn, 1) := by decide +kernel
theorem d_LW_law_839 : decode b_LW_law 839 = .ok (.iload 5, 2) := by decide +kernel
theorem d_LW_law_841 : decode b_LW_law 841 = .ok (.ifCond .ne 22, 3) := by decide +kernel
theorem d_LW_law_844 : decode b_LW_law 844 = .ok (.aload_n 3, 1) := by decide +kernel
theorem d_LW_law_845 : decode b_LW_law 845 = .ok (.iconst 0, 1) := by decide +kernel
theorem d_LW_law_846 : decode b_LW_law 846 = .ok (.laload, 1) := by decide +kernel
theorem d_LW_law_847 : decode b_LW_law 847 = .ok (.iload 6, 2) := by decide +kernel
theorem d_LW_law_849 : decode b_LW_law 849 = .ok (.ifCond .eq 7, 3) := by decide +kernel
theorem d_LW_law_852 : decode b_LW_law 852 = .ok (.lconst 1, 1) := by decide +kernel
theorem d_LW_law_853 : decode b_LW_law 853 = .ok (.goto 4, 3) := by decide +kernel
theorem d_LW_law_856 : decode b_LW_law 856 = .ok (.lconst 0, 1) := by decide +kernel
theorem d_LW_law_857 : decode b_LW_law 857 = .ok (.lcmp, 1) := by decide +kernel
theorem d_LW_law_858 : decode b_LW_law 858 = .ok (.ifCond .eq 5, 3) := by decide +kernel
theorem d_LW_law_861 : decode b_LW_law 861 = .ok (.iconst 0, 1) := by decide +kernel
theorem d_LW_law_862 : decode b_LW_law 862 = .ok (.ireturn, 1) := by decide +kernel
theorem d_LW_law_863 : decode b_LW_law 863 = .ok (.goto 539, 3) := by decide +kernel
theorem d_LW_law_866 : decode b_LW_law 866 = .ok (.aload_n 1, 1) := by decide +kernel
theorem d_LW_law_867 : decode b_LW_law 867 = .ok (.aload_n 0, 1) := by decide +kernel
theorem d_LW_law_868 : decode b_LW_law 868 = .ok (.iload 4, 2) := by decide +kernel
theorem d_LW_law_870 : decode b_LW_law 870 = .ok (.iconst 1, 1) := by decide +kernel
theorem d_LW_law_871 : decode b_LW_law 871 = .ok (.iadd, 1) := by decide +kernel
theorem d_LW_law_872 : decode b_LW_law 872 = .ok (.iaload, 1) := by decide +kernel
theorem d_LW_law_873 : decode b_LW_law 873 = .ok (.aload_n 0, 1) := by decide +kernel
theorem d_LW_law_874 : decode b_LW_law 874 = .ok (.iload 4, 2) := by decide +kernel
theorem d_LW_law_876 : decode b_LW_law 876 = .ok (.iconst 2, 1) := by decide +kernel
theorem d_LW_law_877 : decode b_LW_law 877 = .ok (.iadd, 1) := by decide +kernel
theorem d_LW_law_878 : decode b_LW_law 878 = .ok (.iaload, 1) := by decide +kernel
theorem d_LW_law_879 : decode b_LW_law 879 = .ok (.aload_n 3, 1) := by decide +kernel
theorem d_LW_law_880 : decode b_LW_law 880 = .ok (.invokestatic 125, 3) := by decide +kernel
theorem d_LW_law_883 : decode b_LW_law 883 = .ok (.istore 5, 2) := by decide +kernel
theorem d_LW_law_885 : decode b_LW_law 885 = .ok (.aload_n 2, 1) := by decide +kernel
theorem d_LW_law_886 : decode b_LW_law 886 = .ok (.aload_n 0, 1) := by decide +kernel
theorem d_LW_law_887 : decode b_LW_law 887 = .ok (.iload 4, 2) := by decide +kernel
theorem d_LW_law_889 : decode b_LW_law 889 = .ok (.iconst 1, 1) := by decide +kernel
theorem d_LW_law_890 : decode b_LW_law 890 = .ok (.iadd, 1) := by decide +kernel
theorem d_LW_law_891 : decode b_LW_law 891 = .ok (.iaload, 1) := by decide +kernel
theorem d_LW_law_892 : decode b_LW_law 892 = .ok (.aload_n 0, 1) := by decide +kernel
theorem d_LW_law_893 : decode b_LW_law 893 = .ok (.iload 4, 2) := by decide +kernel
theorem d_LW_law_895 : decode b_LW_law 895 = .ok (.iconst 2, 1) := by decide +kernel
theorem d_LW_law_896 : decode b_LW_law 896 = .ok (.iadd, 1) := by decide +kernel
theorem d_LW_law_897 : decode b_LW_law 897 = .ok (.iaload, 1) := by decide +kernel
theorem d_LW_law_898 : decode b_LW_law 898 = .ok (.invokevirtual 127, 3) := by decide +kernel
theorem d_LW_law_901 : decode b_LW_law 901 = .ok (.istore 6, 2) := by decide +kernel
theorem d_LW_law_903 : decode b_LW_law 903 = .ok (.aload_n 2, 1) := by decide +kernel
theorem d_LW_law_904 : decode b_LW_law 904 = .ok (.invokevirtual 87, 3) := by decide +kernel
theorem d_LW_law_907 : decode b_LW_law 907 = .ok (.iload 5, 2) := by decide +kernel
theorem d_LW_law_909 : decode b_LW_law 909 = .ok (.if_icmp .eq 5, 3) := by decide +kernel
theorem d_LW_law_912 : decode b_LW_law 912 = .ok (.iconst 0, 1) := by decide +kernel
theorem d_LW_law_913 : decode b_LW_law 913 = .ok (.ireturn, 1) := by decide +kernel
theorem d_LW_law_914 : decode b_LW_law 914 = .ok (.iload 5, 2) := by decide +kernel
theorem d_LW_law_916 : decode b_LW_law 916 = .ok (.ifCond .ne 22, 3) := by decide +kernel
theorem d_LW_law_919 : decode b_LW_law 919 = .ok (.aload_n 3, 1) := by decide +kernel
theorem d_LW_law_920 : decode b_LW_law 920 = .ok (.iconst 0, 1) := by decide +kernel
theorem d_LW_law_921 : decode b_LW_law 921 = .ok (.laload, 1) := by decide +kernel
theorem d_LW_law_922 : decode b_LW_law 922 = .ok (.iload 6, 2) := by decide +kernel
theorem d_LW_law_924 : decode b_LW_law 924 = .ok (.ifCond .eq 7, 3) := by decide +kernel
theorem d_LW_law_927 : decode b_LW_law 927 = .ok (.lconst 1, 1) := by decide +kernel
theorem d_LW_law_928 : decode b_LW_law 928 = .ok (.goto 4, 3) := by decide +kernel
theorem d_LW_law_931 : decode b_LW_law 931 = .ok (.lconst 0, 1) := by decide +kernel
theorem d_LW_law_932 : decode b_LW_law 932 = .ok (.lcmp, 1) := by decide +kernel
theorem d_LW_law_933 : decode b_LW_law 933 = .ok (.ifCond .eq 5, 3) := by decide +kernel
theorem d_LW_law_936 : decode b_LW_law 936 = .ok (.iconst 0, 1) := by decide +kernel
theorem d_LW_law_937 : decode b_LW_law 937 = .ok (.ireturn, 1) := by decide +kernel
theorem d_LW_law_938 : decode b_LW_law 938 = .ok (.goto 464, 3) := by decide +kernel
theorem d_LW_law_941 : decode b_LW_law 941 = .ok (.aload_n 1, 1) := by decide +kernel
theorem d_LW_law_942 : decode b_LW_law 942 = .ok (.aload_n 0, 1) := by decide +kernel
