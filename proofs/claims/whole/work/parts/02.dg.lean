theorem d_M_divided_338 : decode b_M_divided 338 = .ok (.iload 7, 2) := by decide +kernel
theorem d_M_divided_340 : decode b_M_divided 340 = .ok (.iload 4, 2) := by decide +kernel
theorem d_M_divided_342 : decode b_M_divided 342 = .ok (.iadd, 1) := by decide +kernel
theorem d_M_divided_343 : decode b_M_divided 343 = .ok (.iconst 2, 1) := by decide +kernel
theorem d_M_divided_344 : decode b_M_divided 344 = .ok (.isub, 1) := by decide +kernel
theorem d_M_divided_345 : decode b_M_divided 345 = .ok (.iaload, 1) := by decide +kernel
theorem d_M_divided_346 : decode b_M_divided 346 = .ok (.i2l, 1) := by decide +kernel
theorem d_M_divided_347 : decode b_M_divided 347 = .ok (.lor, 1) := by decide +kernel
theorem d_M_divided_348 : decode b_M_divided 348 = .ok (.lcmp, 1) := by decide +kernel
theorem d_M_divided_349 : decode b_M_divided 349 = .ok (.ifCond .le 36, 3) := by decide +kernel
theorem d_M_divided_352 : decode b_M_divided 352 = .ok (.lload 10, 2) := by decide +kernel
theorem d_M_divided_354 : decode b_M_divided 354 = .ok (.lconst 1, 1) := by decide +kernel
theorem d_M_divided_355 : decode b_M_divided 355 = .ok (.lsub, 1) := by decide +kernel
theorem d_M_divided_356 : decode b_M_divided 356 = .ok (.lstore 10, 2) := by decide +kernel
theorem d_M_divided_358 : decode b_M_divided 358 = .ok (.lload 12, 2) := by decide +kernel
theorem d_M_divided_360 : decode b_M_divided 360 = .ok (.aload_n 0, 1) := by decide +kernel
theorem d_M_divided_361 : decode b_M_divided 361 = .ok (.getfield 40, 3) := by decide +kernel
theorem d_M_divided_364 : decode b_M_divided 364 = .ok (.iload 4, 2) := by decide +kernel
theorem d_M_divided_366 : decode b_M_divided 366 = .ok (.iconst 1, 1) := by decide +kernel
theorem d_M_divided_367 : decode b_M_divided 367 = .ok (.isub, 1) := by decide +kernel
theorem d_M_divided_368 : decode b_M_divided 368 = .ok (.iaload, 1) := by decide +kernel
theorem d_M_divided_369 : decode b_M_divided 369 = .ok (.i2l, 1) := by decide +kernel
theorem d_M_divided_370 : decode b_M_divided 370 = .ok (.ladd, 1) := by decide +kernel
theorem d_M_divided_371 : decode b_M_divided 371 = .ok (.lstore 12, 2) := by decide +kernel
theorem d_M_divided_373 : decode b_M_divided 373 = .ok (.lload 12, 2) := by decide +kernel
theorem d_M_divided_375 : decode b_M_divided 375 = .ok (.ldc2_w 58, 3) := by decide +kernel
theorem d_M_divided_378 : decode b_M_divided 378 = .ok (.lcmp, 1) := by decide +kernel
theorem d_M_divided_379 : decode b_M_divided 379 = .ok (.ifCond .le (-69), 3) := by decide +kernel
theorem d_M_divided_382 : decode b_M_divided 382 = .ok (.goto 3, 3) := by decide +kernel
theorem d_M_divided_385 : decode b_M_divided 385 = .ok (.lconst 0, 1) := by decide +kernel
theorem d_M_divided_386 : decode b_M_divided 386 = .ok (.lstore 14, 2) := by decide +kernel
theorem d_M_divided_388 : decode b_M_divided 388 = .ok (.iconst 0, 1) := by decide +kernel
theorem d_M_divided_389 : decode b_M_divided 389 = .ok (.istore 16, 2) := by decide +kernel
theorem d_M_divided_391 : decode b_M_divided 391 = .ok (.iload 16, 2) := by decide +kernel
theorem d_M_divided_393 : decode b_M_divided 393 = .ok (.iload 4, 2) := by decide +kernel
theorem d_M_divided_395 : decode b_M_divided 395 = .ok (.if_icmp .ge 55, 3) := by decide +kernel
theorem d_M_divided_398 : decode b_M_divided 398 = .ok (.lload 14, 2) := by decide +kernel
theorem d_M_divided_400 : decode b_M_divided 400 = .ok (.aload_n 1, 1) := by decide +kernel
theorem d_M_divided_401 : decode b_M_divided 401 = .ok (.iload 7, 2) := by decide +kernel
theorem d_M_divided_403 : decode b_M_divided 403 = .ok (.iload 16, 2) := by decide +kernel
theorem d_M_divided_405 : decode b_M_divided 405 = .ok (.iadd, 1) := by decide +kernel
theorem d_M_divided_406 : decode b_M_divided 406 = .ok (.iaload, 1) := by decide +kernel
theorem d_M_divided_407 : decode b_M_divided 407 = .ok (.i2l, 1) := by decide +kernel
theorem d_M_divided_408 : decode b_M_divided 408 = .ok (.lload 10, 2) := by decide +kernel
theorem d_M_divided_410 : decode b_M_divided 410 = .ok (.aload_n 0, 1) := by decide +kernel
theorem d_M_divided_411 : decode b_M_divided 411 = .ok (.getfield 40, 3) := by decide +kernel
theorem d_M_divided_414 : decode b_M_divided 414 = .ok (.iload 16, 2) := by decide +kernel
theorem d_M_divided_416 : decode b_M_divided 416 = .ok (.iaload, 1) := by decide +kernel
theorem d_M_divided_417 : decode b_M_divided 417 = .ok (.i2l, 1) := by decide +kernel
theorem d_M_divided_418 : decode b_M_divided 418 = .ok (.lmul, 1) := by decide +kernel
theorem d_M_divided_419 : decode b_M_divided 419 = .ok (.lsub, 1) := by decide +kernel
theorem d_M_divided_420 : decode b_M_divided 420 = .ok (.ladd, 1) := by decide +kernel
theorem d_M_divided_421 : decode b_M_divided 421 = .ok (.lstore 14, 2) := by decide +kernel
theorem d_M_divided_423 : decode b_M_divided 423 = .ok (.aload_n 1, 1) := by decide +kernel
theorem d_M_divided_424 : decode b_M_divided 424 = .ok (.iload 7, 2) := by decide +kernel
theorem d_M_divided_426 : decode b_M_divided 426 = .ok (.iload 16, 2) := by decide +kernel
theorem d_M_divided_428 : decode b_M_divided 428 = .ok (.iadd, 1) := by decide +kernel
theorem d_M_divided_429 : decode b_M_divided 429 = .ok (.lload 14, 2) := by decide +kernel
theorem d_M_divided_431 : decode b_M_divided 431 = .ok (.ldc2_w 58, 3) := by decide +kernel
theorem d_M_divided_434 : decode b_M_divided 434 = .ok (.land, 1) := by decide +kernel
theorem d_M_divided_435 : decode b_M_divided 435 = .ok (.l2i, 1) := by decide +kernel
theorem d_M_divided_436 : decode b_M_divided 436 = .ok (.iastore, 1) := by decide +kernel
theorem d_M_divided_437 : decode b_M_divided 437 = .ok (.lload 14, 2) := by decide +kernel
theorem d_M_divided_439 : decode b_M_divided 439 = .ok (.bipush 16, 2) := by decide +kernel
theorem d_M_divided_441 : decode b_M_divided 441 = .ok (.lshr, 1) := by decide +kernel
theorem d_M_divided_442 : decode b_M_divided 442 = .ok (.lstore 14, 2) := by decide +kernel
theorem d_M_divided_444 : decode b_M_divided 444 = .ok (.iinc 16 1, 3) := by decide +kernel
theorem d_M_divided_447 : decode b_M_divided 447 = .ok (.goto (-56), 3) := by decide +kernel
theorem d_M_divided_450 : decode b_M_divided 450 = .ok (.lload 14, 2) := by decide +kernel
theorem d_M_divided_452 : decode b_M_divided 452 = .ok (.aload_n 1, 1) := by decide +kernel
theorem d_M_divided_453 : decode b_M_divided 453 = .ok (.iload 7, 2) := by decide +kernel
theorem d_M_divided_455 : decode b_M_divided 455 = .ok (.iload 4, 2) := by decide +kernel
theorem d_M_divided_457 : decode b_M_divided 457 = .ok (.iadd, 1) := by decide +kernel
theorem d_M_divided_458 : decode b_M_divided 458 = .ok (.iaload, 1) := by decide +kernel
theorem d_M_divided_459 : decode b_M_divided 459 = .ok (.i2l, 1) := by decide +kernel
theorem d_M_divided_460 : decode b_M_divided 460 = .ok (.ladd, 1) := by decide +kernel
theorem d_M_divided_461 : decode b_M_divided 461 = .ok (.lstore 14, 2) := by decide +kernel
theorem d_M_divided_463 : decode b_M_divided 463 = .ok (.aload_n 1, 1) := by decide +kernel
theorem d_M_divided_464 : decode b_M_divided 464 = .ok (.iload 7, 2) := by decide +kernel
theorem d_M_divided_466 : decode b_M_divided 466 = .ok (.iload 4, 2) := by decide +kernel
theorem d_M_divided_468 : decode b_M_divided 468 = .ok (.iadd, 1) := by decide +kernel
theorem d_M_divided_469 : decode b_M_divided 469 = .ok (.lload 14, 2) := by decide +kernel
theorem d_M_divided_471 : decode b_M_divided 471 = .ok (.ldc2_w 58, 3) := by decide +kernel
theorem d_M_divided_474 : decode b_M_divided 474 = .ok (.land, 1) := by decide +kernel
theorem d_M_divided_475 : decode b_M_divided 475 = .ok (.l2i, 1) := by decide +kernel
theorem d_M_divided_476 : decode b_M_divided 476 = .ok (.iastore, 1) := by decide +kernel
theorem d_M_divided_477 : decode b_M_divided 477 = .ok (.lload 14, 2) := by decide +kernel
theorem d_M_divided_479 : decode b_M_divided 479 = .ok (.lconst 0, 1) := by decide +kernel
theorem d_M_divided_480 : decode b_M_divided 480 = .ok (.lcmp, 1) := by decide +kernel
theorem d_M_divided_481 : decode b_M_divided 481 = .ok (.ifCond .ge 87, 3) := by decide +kernel
theorem d_M_divided_484 : decode b_M_divided 484 = .ok (.lload 10, 2) := by decide +kernel
theorem d_M_divided_486 : decode b_M_divided 486 = .ok (.lconst 1, 1) := by decide +kernel
theorem d_M_divided_487 : decode b_M_divided 487 = .ok (.lsub, 1) := by decide +kernel
theorem d_M_divided_488 : decode b_M_divided 488 = .ok (.lstore 10, 2) := by decide +kernel
theorem d_M_divided_490 : decode b_M_divided 490 = .ok (.iconst 0, 1) := by decide +kernel
theorem d_M_divided_491 : decode b_M_divided 491 = .ok (.istore 16, 2) := by decide +kernel
theorem d_M_divided_493 : decode b_M_divided 493 = .ok (.iconst 0, 1) := by decide +kernel
theorem d_M_divided_494 : decode b_M_divided 494 = .ok (.istore 17, 2) := by decide +kernel
theorem d_M_divided_496 : decode b_M_divided 496 = .ok (.iload 17, 2) := by decide +kernel
theorem d_M_divided_498 : decode b_M_divided 498 = .ok (.iload 4, 2) := by decide +kernel
theorem d_M_divided_500 : decode b_M_divided 500 = .ok (.if_icmp .ge 48, 3) := by decide +kernel
theorem d_M_divided_503 : decode b_M_divided 503 = .ok (.iload 16, 2) := by decide +kernel
theorem d_M_divided_505 : decode b_M_divided 505 = .ok (.aload_n 1, 1) := by decide +kernel
theorem d_M_divided_506 : decode b_M_divided 506 = .ok (.iload 7, 2) := by decide +kernel
theorem d_M_divided_508 : decode b_M_divided 508 = .ok (.iload 17, 2) := by decide +kernel
theorem d_M_divided_510 : decode b_M_divided 510 = .ok (.iadd, 1) := by decide +kernel
theorem d_M_divided_511 : decode b_M_divided 511 = .ok (.iaload, 1) := by decide +kernel
theorem d_M_divided_512 : decode b_M_divided 512 = .ok (.aload_n 0, 1) := by decide +kernel
theorem d_M_divided_513 : decode b_M_divided 513 = .ok (.getfield 40, 3) := by decide +kernel
theorem d_M_divided_516 : decode b_M_divided 516 = .ok (.iload 17, 2) := by decide +kernel
theorem d_M_divided_518 : decode b_M_divided 518 = .ok (.iaload, 1) := by decide +kernel
theorem d_M_divided_519 : decode b_M_divided 519 = .ok (.iadd, 1) := by decide +kernel
theorem d_M_divided_520 : decode b_M_divided 520 = .ok (.iadd, 1) := by decide +kernel
theorem d_M_divided_521 : decode b_M_divided 521 = .ok (.istore 16, 2) := by decide +kernel
theorem d_M_divided_523 : decode b_M_divided 523 = .ok (.aload_n 1, 1) := by decide +kernel
theorem d_M_divided_524 : decode b_M_divided 524 = .ok (.iload 7, 2) := by decide +kernel
theorem d_M_divided_526 : decode b_M_divided 526 = .ok (.iload 17, 2) := by decide +kernel
theorem d_M_divided_528 : decode b_M_divided 528 = .ok (.iadd, 1) := by decide +kernel
theorem d_M_divided_529 : decode b_M_divided 529 = .ok (.iload 16, 2) := by decide +kernel
theorem d_M_divided_531 : decode b_M_divided 531 = .ok (.ldc 53, 2) := by decide +kernel
theorem d_M_divided_533 : decode b_M_divided 533 = .ok (.iand, 1) := by decide +kernel
theorem d_M_divided_534 : decode b_M_divided 534 = .ok (.iastore, 1) := by decide +kernel
theorem d_M_divided_535 : decode b_M_divided 535 = .ok (.iload 16, 2) := by decide +kernel
theorem d_M_divided_537 : decode b_M_divided 537 = .ok (.bipush 16, 2) := by decide +kernel
theorem d_M_divided_539 : decode b_M_divided 539 = .ok (.ishr, 1) := by decide +kernel
theorem d_M_divided_540 : decode b_M_divided 540 = .ok (.istore 16, 2) := by decide +kernel
theorem d_M_divided_542 : decode b_M_divided 542 = .ok (.iinc 17 1, 3) := by decide +kernel
theorem d_M_divided_545 : decode b_M_divided 545 = .ok (.goto (-49), 3) := by decide +kernel
theorem d_M_divided_548 : decode b_M_divided 548 = .ok (.aload_n 1, 1) := by decide +kernel
theorem d_M_divided_549 : decode b_M_divided 549 = .ok (.iload 7, 2) := by decide +kernel
theorem d_M_divided_551 : decode b_M_divided 551 = .ok (.iload 4, 2) := by decide +kernel
theorem d_M_divided_553 : decode b_M_divided 553 = .ok (.iadd, 1) := by decide +kernel
theorem d_M_divided_554 : decode b_M_divided 554 = .ok (.aload_n 1, 1) := by decide +kernel
theorem d_M_divided_555 : decode b_M_divided 555 = .ok (.iload 7, 2) := by decide +kernel
theorem d_M_divided_557 : decode b_M_divided 557 = .ok (.iload 4, 2) := by decide +kernel
theorem d_M_divided_559 : decode b_M_divided 559 = .ok (.iadd, 1) := by decide +kernel
theorem d_M_divided_560 : decode b_M_divided 560 = .ok (.iaload, 1) := by decide +kernel
theorem d_M_divided_561 : decode b_M_divided 561 = .ok (.iload 16, 2) := by decide +kernel
theorem d_M_divided_563 : decode b_M_divided 563 = .ok (.iadd, 1) := by decide +kernel
theorem d_M_divided_564 : decode b_M_divided 564 = .ok (.ldc 53, 2) := by decide +kernel
theorem d_M_divided_566 : decode b_M_divided 566 = .ok (.iand, 1) := by decide +kernel
theorem d_M_divided_567 : decode b_M_divided 567 = .ok (.iastore, 1) := by decide +kernel
theorem d_M_divided_568 : decode b_M_divided 568 = .ok (.aload 5, 2) := by decide +kernel
theorem d_M_divided_570 : decode b_M_divided 570 = .ok (.iload 7, 2) := by decide +kernel
theorem d_M_divided_572 : decode b_M_divided 572 = .ok (.lload 10, 2) := by decide +kernel
theorem d_M_divided_574 : decode b_M_divided 574 = .ok (.l2i, 1) := by decide +kernel
theorem d_M_divided_575 : decode b_M_divided 575 = .ok (.iastore, 1) := by decide +kernel
theorem d_M_divided_576 : decode b_M_divided 576 = .ok (.iinc 7 (-1), 3) := by decide +kernel
theorem d_M_divided_579 : decode b_M_divided 579 = .ok (.goto (-328), 3) := by decide +kernel
theorem d_M_divided_582 : decode b_M_divided 582 = .ok (.aload_n 0, 1) := by decide +kernel
theorem d_M_divided_583 : decode b_M_divided 583 = .ok (.aload 5, 2) := by decide +kernel
theorem d_M_divided_585 : decode b_M_divided 585 = .ok (.iload_n 2, 1) := by decide +kernel
theorem d_M_divided_586 : decode b_M_divided 586 = .ok (.iload 4, 2) := by decide +kernel
theorem d_M_divided_588 : decode b_M_divided 588 = .ok (.isub, 1) := by decide +kernel
theorem d_M_divided_589 : decode b_M_divided 589 = .ok (.iconst 1, 1) := by decide +kernel
theorem d_M_divided_590 : decode b_M_divided 590 = .ok (.iadd, 1) := by decide +kernel
theorem d_M_divided_591 : decode b_M_divided 591 = .ok (.invokestatic 54, 3) := by decide +kernel
theorem d_M_divided_594 : decode b_M_divided 594 = .ok (.putfield 64, 3) := by decide +kernel
theorem d_M_divided_597 : decode b_M_divided 597 = .ok (.iconst 0, 1) := by decide +kernel
theorem d_M_divided_598 : decode b_M_divided 598 = .ok (.istore 7, 2) := by decide +kernel
theorem d_M_divided_600 : decode b_M_divided 600 = .ok (.iload 7, 2) := by decide +kernel
theorem d_M_divided_602 : decode b_M_divided 602 = .ok (.iload 4, 2) := by decide +kernel
theorem d_M_divided_604 : decode b_M_divided 604 = .ok (.if_icmp .ge 49, 3) := by decide +kernel
theorem d_M_divided_607 : decode b_M_divided 607 = .ok (.aload_n 1, 1) := by decide +kernel
theorem d_M_divided_608 : decode b_M_divided 608 = .ok (.iload 7, 2) := by decide +kernel
theorem d_M_divided_610 : decode b_M_divided 610 = .ok (.aload_n 1, 1) := by decide +kernel
theorem d_M_divided_611 : decode b_M_divided 611 = .ok (.iload 7, 2) := by decide +kernel
theorem d_M_divided_613 : decode b_M_divided 613 = .ok (.iaload, 1) := by decide +kernel
theorem d_M_divided_614 : decode b_M_divided 614 = .ok (.iload 6, 2) := by decide +kernel
theorem d_M_divided_616 : decode b_M_divided 616 = .ok (.ishr, 1) := by decide +kernel
theorem d_M_divided_617 : decode b_M_divided 617 = .ok (.iload 7, 2) := by decide +kernel
theorem d_M_divided_619 : decode b_M_divided 619 = .ok (.iconst 1, 1) := by decide +kernel
theorem d_M_divided_620 : decode b_M_divided 620 = .ok (.iadd, 1) := by decide +kernel
theorem d_M_divided_621 : decode b_M_divided 621 = .ok (.iload 4, 2) := by decide +kernel
theorem d_M_divided_623 : decode b_M_divided 623 = .ok (.if_icmp .gt 18, 3) := by decide +kernel
theorem d_M_divided_626 : decode b_M_divided 626 = .ok (.aload_n 1, 1) := by decide +kernel
theorem d_M_divided_627 : decode b_M_divided 627 = .ok (.iload 7, 2) := by decide +kernel
theorem d_M_divided_629 : decode b_M_divided 629 = .ok (.iconst 1, 1) := by decide +kernel
theorem d_M_divided_630 : decode b_M_divided 630 = .ok (.iadd, 1) := by decide +kernel
theorem d_M_divided_631 : decode b_M_divided 631 = .ok (.iaload, 1) := by decide +kernel
theorem d_M_divided_632 : decode b_M_divided 632 = .ok (.bipush 16, 2) := by decide +kernel
theorem d_M_divided_634 : decode b_M_divided 634 = .ok (.iload 6, 2) := by decide +kernel
theorem d_M_divided_636 : decode b_M_divided 636 = .ok (.isub, 1) := by decide +kernel
theorem d_M_divided_637 : decode b_M_divided 637 = .ok (.ishl, 1) := by decide +kernel
theorem d_M_divided_638 : decode b_M_divided 638 = .ok (.goto 4, 3) := by decide +kernel
theorem d_M_divided_641 : decode b_M_divided 641 = .ok (.iconst 0, 1) := by decide +kernel
theorem d_M_divided_642 : decode b_M_divided 642 = .ok (.ior, 1) := by decide +kernel
theorem d_M_divided_643 : decode b_M_divided 643 = .ok (.ldc 53, 2) := by decide +kernel
theorem d_M_divided_645 : decode b_M_divided 645 = .ok (.iand, 1) := by decide +kernel
theorem d_M_divided_646 : decode b_M_divided 646 = .ok (.iastore, 1) := by decide +kernel
theorem d_M_divided_647 : decode b_M_divided 647 = .ok (.iinc 7 1, 3) := by decide +kernel
theorem d_M_divided_650 : decode b_M_divided 650 = .ok (.goto (-50), 3) := by decide +kernel
theorem d_M_divided_653 : decode b_M_divided 653 = .ok (.aload_n 1, 1) := by decide +kernel
theorem d_M_divided_654 : decode b_M_divided 654 = .ok (.iload 4, 2) := by decide +kernel
theorem d_M_divided_656 : decode b_M_divided 656 = .ok (.invokestatic 54, 3) := by decide +kernel
theorem d_M_divided_659 : decode b_M_divided 659 = .ok (.ireturn, 1) := by decide +kernel
theorem d_M_shiftedLeft_0 : decode b_M_shiftedLeft 0 = .ok (.iload_n 2, 1) := by decide +kernel
theorem d_M_shiftedLeft_1 : decode b_M_shiftedLeft 1 = .ok (.iconst 4, 1) := by decide +kernel
theorem d_M_shiftedLeft_2 : decode b_M_shiftedLeft 2 = .ok (.ishr, 1) := by decide +kernel
theorem d_M_shiftedLeft_3 : decode b_M_shiftedLeft 3 = .ok (.istore 4, 2) := by decide +kernel
theorem d_M_shiftedLeft_5 : decode b_M_shiftedLeft 5 = .ok (.iload_n 2, 1) := by decide +kernel
theorem d_M_shiftedLeft_6 : decode b_M_shiftedLeft 6 = .ok (.bipush 15, 2) := by decide +kernel
theorem d_M_shiftedLeft_8 : decode b_M_shiftedLeft 8 = .ok (.iand, 1) := by decide +kernel
theorem d_M_shiftedLeft_9 : decode b_M_shiftedLeft 9 = .ok (.istore 5, 2) := by decide +kernel
theorem d_M_shiftedLeft_11 : decode b_M_shiftedLeft 11 = .ok (.aload_n 3, 1) := by decide +kernel
theorem d_M_shiftedLeft_12 : decode b_M_shiftedLeft 12 = .ok (.iload_n 1, 1) := by decide +kernel
theorem d_M_shiftedLeft_13 : decode b_M_shiftedLeft 13 = .ok (.iload 4, 2) := by decide +kernel
theorem d_M_shiftedLeft_15 : decode b_M_shiftedLeft 15 = .ok (.iadd, 1) := by decide +kernel
theorem d_M_shiftedLeft_16 : decode b_M_shiftedLeft 16 = .ok (.iconst 0, 1) := by decide +kernel
theorem d_M_shiftedLeft_17 : decode b_M_shiftedLeft 17 = .ok (.iastore, 1) := by decide +kernel
theorem d_M_shiftedLeft_18 : decode b_M_shiftedLeft 18 = .ok (.iload_n 1, 1) := by decide +kernel
theorem d_M_shiftedLeft_19 : decode b_M_shiftedLeft 19 = .ok (.istore 6, 2) := by decide +kernel
theorem d_M_shiftedLeft_21 : decode b_M_shiftedLeft 21 = .ok (.iload 6, 2) := by decide +kernel
theorem d_M_shiftedLeft_23 : decode b_M_shiftedLeft 23 = .ok (.ifCond .lt 58, 3) := by decide +kernel
theorem d_M_shiftedLeft_26 : decode b_M_shiftedLeft 26 = .ok (.aload_n 3, 1) := by decide +kernel
theorem d_M_shiftedLeft_27 : decode b_M_shiftedLeft 27 = .ok (.iload 6, 2) := by decide +kernel
theorem d_M_shiftedLeft_29 : decode b_M_shiftedLeft 29 = .ok (.iload 4, 2) := by decide +kernel
theorem d_M_shiftedLeft_31 : decode b_M_shiftedLeft 31 = .ok (.iadd, 1) := by decide +kernel
theorem d_M_shiftedLeft_32 : decode b_M_shiftedLeft 32 = .ok (.iload 6, 2) := by decide +kernel
theorem d_M_shiftedLeft_34 : decode b_M_shiftedLeft 34 = .ok (.iload_n 1, 1) := by decide +kernel
theorem d_M_shiftedLeft_35 : decode b_M_shiftedLeft 35 = .ok (.if_icmp .ge 13, 3) := by decide +kernel
theorem d_M_shiftedLeft_38 : decode b_M_shiftedLeft 38 = .ok (.aload_n 0, 1) := by decide +kernel
theorem d_M_shiftedLeft_39 : decode b_M_shiftedLeft 39 = .ok (.iload 6, 2) := by decide +kernel
theorem d_M_shiftedLeft_41 : decode b_M_shiftedLeft 41 = .ok (.iaload, 1) := by decide +kernel
theorem d_M_shiftedLeft_42 : decode b_M_shiftedLeft 42 = .ok (.iload 5, 2) := by decide +kernel
theorem d_M_shiftedLeft_44 : decode b_M_shiftedLeft 44 = .ok (.ishl, 1) := by decide +kernel
theorem d_M_shiftedLeft_45 : decode b_M_shiftedLeft 45 = .ok (.goto 4, 3) := by decide +kernel
theorem d_M_shiftedLeft_48 : decode b_M_shiftedLeft 48 = .ok (.iconst 0, 1) := by decide +kernel
theorem d_M_shiftedLeft_49 : decode b_M_shiftedLeft 49 = .ok (.iload 6, 2) := by decide +kernel
theorem d_M_shiftedLeft_51 : decode b_M_shiftedLeft 51 = .ok (.ifCond .le 18, 3) := by decide +kernel
theorem d_M_shiftedLeft_54 : decode b_M_shiftedLeft 54 = .ok (.aload_n 0, 1) := by decide +kernel
theorem d_M_shiftedLeft_55 : decode b_M_shiftedLeft 55 = .ok (.iload 6, 2) := by decide +kernel
theorem d_M_shiftedLeft_57 : decode b_M_shiftedLeft 57 = .ok (.iconst 1, 1) := by decide +kernel
theorem d_M_shiftedLeft_58 : decode b_M_shiftedLeft 58 = .ok (.isub, 1) := by decide +kernel
theorem d_M_shiftedLeft_59 : decode b_M_shiftedLeft 59 = .ok (.iaload, 1) := by decide +kernel
theorem d_M_shiftedLeft_60 : decode b_M_shiftedLeft 60 = .ok (.bipush 16, 2) := by decide +kernel
theorem d_M_shiftedLeft_62 : decode b_M_shiftedLeft 62 = .ok (.iload 5, 2) := by decide +kernel
theorem d_M_shiftedLeft_64 : decode b_M_shiftedLeft 64 = .ok (.isub, 1) := by decide +kernel
theorem d_M_shiftedLeft_65 : decode b_M_shiftedLeft 65 = .ok (.ishr, 1) := by decide +kernel
theorem d_M_shiftedLeft_66 : decode b_M_shiftedLeft 66 = .ok (.goto 4, 3) := by decide +kernel
theorem d_M_shiftedLeft_69 : decode b_M_shiftedLeft 69 = .ok (.iconst 0, 1) := by decide +kernel
theorem d_M_shiftedLeft_70 : decode b_M_shiftedLeft 70 = .ok (.ior, 1) := by decide +kernel
theorem d_M_shiftedLeft_71 : decode b_M_shiftedLeft 71 = .ok (.ldc 53, 2) := by decide +kernel
theorem d_M_shiftedLeft_73 : decode b_M_shiftedLeft 73 = .ok (.iand, 1) := by decide +kernel
theorem d_M_shiftedLeft_74 : decode b_M_shiftedLeft 74 = .ok (.iastore, 1) := by decide +kernel
theorem d_M_shiftedLeft_75 : decode b_M_shiftedLeft 75 = .ok (.iinc 6 (-1), 3) := by decide +kernel
theorem d_M_shiftedLeft_78 : decode b_M_shiftedLeft 78 = .ok (.goto (-57), 3) := by decide +kernel
theorem d_M_shiftedLeft_81 : decode b_M_shiftedLeft 81 = .ok (.iconst 0, 1) := by decide +kernel
theorem d_M_shiftedLeft_82 : decode b_M_shiftedLeft 82 = .ok (.istore 6, 2) := by decide +kernel
theorem d_M_shiftedLeft_84 : decode b_M_shiftedLeft 84 = .ok (.iload 6, 2) := by decide +kernel
theorem d_M_shiftedLeft_86 : decode b_M_shiftedLeft 86 = .ok (.iload 4, 2) := by decide +kernel
theorem d_M_shiftedLeft_88 : decode b_M_shiftedLeft 88 = .ok (.if_icmp .ge 14, 3) := by decide +kernel
theorem d_M_shiftedLeft_91 : decode b_M_shiftedLeft 91 = .ok (.aload_n 3, 1) := by decide +kernel
theorem d_M_shiftedLeft_92 : decode b_M_shiftedLeft 92 = .ok (.iload 6, 2) := by decide +kernel
theorem d_M_shiftedLeft_94 : decode b_M_shiftedLeft 94 = .ok (.iconst 0, 1) := by decide +kernel
theorem d_M_shiftedLeft_95 : decode b_M_shiftedLeft 95 = .ok (.iastore, 1) := by decide +kernel
theorem d_M_shiftedLeft_96 : decode b_M_shiftedLeft 96 = .ok (.iinc 6 1, 3) := by decide +kernel
theorem d_M_shiftedLeft_99 : decode b_M_shiftedLeft 99 = .ok (.goto (-15), 3) := by decide +kernel
theorem d_M_shiftedLeft_102 : decode b_M_shiftedLeft 102 = .ok (.aload_n 3, 1) := by decide +kernel
theorem d_M_shiftedLeft_103 : decode b_M_shiftedLeft 103 = .ok (.iload_n 1, 1) := by decide +kernel
theorem d_M_shiftedLeft_104 : decode b_M_shiftedLeft 104 = .ok (.iload 4, 2) := by decide +kernel
theorem d_M_shiftedLeft_106 : decode b_M_shiftedLeft 106 = .ok (.iadd, 1) := by decide +kernel
theorem d_M_shiftedLeft_107 : decode b_M_shiftedLeft 107 = .ok (.iconst 1, 1) := by decide +kernel
theorem d_M_shiftedLeft_108 : decode b_M_shiftedLeft 108 = .ok (.iadd, 1) := by decide +kernel
theorem d_M_shiftedLeft_109 : decode b_M_shiftedLeft 109 = .ok (.invokestatic 54, 3) := by decide +kernel
theorem d_M_shiftedLeft_112 : decode b_M_shiftedLeft 112 = .ok (.ireturn, 1) := by decide +kernel
theorem d_M_isBit_0 : decode b_M_isBit 0 = .ok (.iload_n 2, 1) := by decide +kernel
theorem d_M_isBit_1 : decode b_M_isBit 1 = .ok (.ifCond .lt 29, 3) := by decide +kernel
theorem d_M_isBit_4 : decode b_M_isBit 4 = .ok (.iload_n 2, 1) := by decide +kernel
theorem d_M_isBit_5 : decode b_M_isBit 5 = .ok (.iconst 4, 1) := by decide +kernel
theorem d_M_isBit_6 : decode b_M_isBit 6 = .ok (.ishr, 1) := by decide +kernel
theorem d_M_isBit_7 : decode b_M_isBit 7 = .ok (.iload_n 1, 1) := by decide +kernel
theorem d_M_isBit_8 : decode b_M_isBit 8 = .ok (.if_icmp .ge 22, 3) := by decide +kernel
theorem d_M_isBit_11 : decode b_M_isBit 11 = .ok (.aload_n 0, 1) := by decide +kernel
theorem d_M_isBit_12 : decode b_M_isBit 12 = .ok (.iload_n 2, 1) := by decide +kernel
theorem d_M_isBit_13 : decode b_M_isBit 13 = .ok (.iconst 4, 1) := by decide +kernel
theorem d_M_isBit_14 : decode b_M_isBit 14 = .ok (.ishr, 1) := by decide +kernel
theorem d_M_isBit_15 : decode b_M_isBit 15 = .ok (.iaload, 1) := by decide +kernel
theorem d_M_isBit_16 : decode b_M_isBit 16 = .ok (.iload_n 2, 1) := by decide +kernel
theorem d_M_isBit_17 : decode b_M_isBit 17 = .ok (.bipush 15, 2) := by decide +kernel
theorem d_M_isBit_19 : decode b_M_isBit 19 = .ok (.iand, 1) := by decide +kernel
theorem d_M_isBit_20 : decode b_M_isBit 20 = .ok (.ishr, 1) := by decide +kernel
theorem d_M_isBit_21 : decode b_M_isBit 21 = .ok (.iconst 1, 1) := by decide +kernel
theorem d_M_isBit_22 : decode b_M_isBit 22 = .ok (.iand, 1) := by decide +kernel
theorem d_M_isBit_23 : decode b_M_isBit 23 = .ok (.ifCond .eq 7, 3) := by decide +kernel
theorem d_M_isBit_26 : decode b_M_isBit 26 = .ok (.iconst 1, 1) := by decide +kernel
theorem d_M_isBit_27 : decode b_M_isBit 27 = .ok (.goto 4, 3) := by decide +kernel
theorem d_M_isBit_30 : decode b_M_isBit 30 = .ok (.iconst 0, 1) := by decide +kernel
theorem d_M_isBit_31 : decode b_M_isBit 31 = .ok (.ireturn, 1) := by decide +kernel
theorem d_M_in_0 : decode b_M_in 0 = .ok (.iload_n 0, 1) := by decide +kernel
theorem d_M_in_1 : decode b_M_in 1 = .ok (.iload_n 1, 1) := by decide +kernel
theorem d_M_in_2 : decode b_M_in 2 = .ok (.if_icmp .lt 12, 3) := by decide +kernel
theorem d_M_in_5 : decode b_M_in 5 = .ok (.iload_n 0, 1) := by decide +kernel
theorem d_M_in_6 : decode b_M_in 6 = .ok (.iload_n 2, 1) := by decide +kernel
theorem d_M_in_7 : decode b_M_in 7 = .ok (.if_icmp .gt 7, 3) := by decide +kernel
theorem d_M_in_10 : decode b_M_in 10 = .ok (.iconst 1, 1) := by decide +kernel
theorem d_M_in_11 : decode b_M_in 11 = .ok (.goto 4, 3) := by decide +kernel
theorem d_M_in_14 : decode b_M_in 14 = .ok (.iconst 0, 1) := by decide +kernel
theorem d_M_in_15 : decode b_M_in 15 = .ok (.ireturn, 1) := by decide +kernel
theorem d_M_fails_0 : decode b_M_fails 0 = .ok (.iload_n 1, 1) := by decide +kernel
theorem d_M_fails_1 : decode b_M_fails 1 = .ok (.ifCond .eq 15, 3) := by decide +kernel
theorem d_M_fails_4 : decode b_M_fails 4 = .ok (.aload_n 0, 1) := by decide +kernel
theorem d_M_fails_5 : decode b_M_fails 5 = .ok (.getfield 49, 3) := by decide +kernel
theorem d_M_fails_8 : decode b_M_fails 8 = .ok (.ifCond .ne 8, 3) := by decide +kernel
theorem d_M_fails_11 : decode b_M_fails 11 = .ok (.aload_n 0, 1) := by decide +kernel
theorem d_M_fails_12 : decode b_M_fails 12 = .ok (.iload_n 2, 1) := by decide +kernel
theorem d_M_fails_13 : decode b_M_fails 13 = .ok (.putfield 49, 3) := by decide +kernel
theorem d_M_fails_16 : decode b_M_fails 16 = .ok (.aload_n 0, 1) := by decide +kernel
theorem d_M_fails_17 : decode b_M_fails 17 = .ok (.getfield 49, 3) := by decide +kernel
theorem d_M_fails_20 : decode b_M_fails 20 = .ok (.ifCond .eq 7, 3) := by decide +kernel
theorem d_M_fails_23 : decode b_M_fails 23 = .ok (.iconst 1, 1) := by decide +kernel
theorem d_M_fails_24 : decode b_M_fails 24 = .ok (.goto 4, 3) := by decide +kernel
theorem d_M_fails_27 : decode b_M_fails 27 = .ok (.iconst 0, 1) := by decide +kernel
theorem d_M_fails_28 : decode b_M_fails 28 = .ok (.ireturn, 1) := by decide +kernel
theorem d_M_isRegister_0 : decode b_M_isRegister 0 = .ok (.iload_n 0, 1) := by decide +kernel
theorem d_M_isRegister_1 : decode b_M_isRegister 1 = .ok (.iconst 0, 1) := by decide +kernel
theorem d_M_isRegister_2 : decode b_M_isRegister 2 = .ok (.bipush 15, 2) := by decide +kernel
theorem d_M_isRegister_4 : decode b_M_isRegister 4 = .ok (.invokestatic 68, 3) := by decide +kernel
theorem d_M_isRegister_7 : decode b_M_isRegister 7 = .ok (.ireturn, 1) := by decide +kernel
theorem d_M_load_0 : decode b_M_load 0 = .ok (.iconst 0, 1) := by decide +kernel
theorem d_M_load_1 : decode b_M_load 1 = .ok (.istore_n 3, 1) := by decide +kernel
theorem d_M_load_2 : decode b_M_load 2 = .ok (.iload_n 3, 1) := by decide +kernel
theorem d_M_load_3 : decode b_M_load 3 = .ok (.aload_n 0, 1) := by decide +kernel
theorem d_M_load_4 : decode b_M_load 4 = .ok (.getfield 13, 3) := by decide +kernel
theorem d_M_load_7 : decode b_M_load 7 = .ok (.iload_n 1, 1) := by decide +kernel
theorem d_M_load_8 : decode b_M_load 8 = .ok (.iaload, 1) := by decide +kernel
theorem d_M_load_9 : decode b_M_load 9 = .ok (.if_icmp .ge 24, 3) := by decide +kernel
theorem d_M_load_12 : decode b_M_load 12 = .ok (.aload_n 2, 1) := by decide +kernel
theorem d_M_load_13 : decode b_M_load 13 = .ok (.iload_n 3, 1) := by decide +kernel
theorem d_M_load_14 : decode b_M_load 14 = .ok (.aload_n 0, 1) := by decide +kernel
theorem d_M_load_15 : decode b_M_load 15 = .ok (.getfield 9, 3) := by decide +kernel
theorem d_M_load_18 : decode b_M_load 18 = .ok (.sipush 129, 3) := by decide +kernel
theorem d_M_load_21 : decode b_M_load 21 = .ok (.iload_n 1, 1) := by decide +kernel
theorem d_M_load_22 : decode b_M_load 22 = .ok (.imul, 1) := by decide +kernel
theorem d_M_load_23 : decode b_M_load 23 = .ok (.iload_n 3, 1) := by decide +kernel
theorem d_M_load_24 : decode b_M_load 24 = .ok (.iadd, 1) := by decide +kernel
theorem d_M_load_25 : decode b_M_load 25 = .ok (.iaload, 1) := by decide +kernel
theorem d_M_load_26 : decode b_M_load 26 = .ok (.iastore, 1) := by decide +kernel
theorem d_M_load_27 : decode b_M_load 27 = .ok (.iinc 3 1, 3) := by decide +kernel
theorem d_M_load_30 : decode b_M_load 30 = .ok (.goto (-28), 3) := by decide +kernel
theorem d_M_load_33 : decode b_M_load 33 = .ok (.aload_n 0, 1) := by decide +kernel
theorem d_M_load_34 : decode b_M_load 34 = .ok (.getfield 13, 3) := by decide +kernel
theorem d_M_load_37 : decode b_M_load 37 = .ok (.iload_n 1, 1) := by decide +kernel
theorem d_M_load_38 : decode b_M_load 38 = .ok (.iaload, 1) := by decide +kernel
theorem d_M_load_39 : decode b_M_load 39 = .ok (.ireturn, 1) := by decide +kernel
theorem d_M_bits_0 : decode b_M_bits 0 = .ok (.iload_n 1, 1) := by decide +kernel
theorem d_M_bits_1 : decode b_M_bits 1 = .ok (.ifCond .ne 5, 3) := by decide +kernel
theorem d_M_bits_4 : decode b_M_bits 4 = .ok (.iconst 0, 1) := by decide +kernel
theorem d_M_bits_5 : decode b_M_bits 5 = .ok (.ireturn, 1) := by decide +kernel
theorem d_M_bits_6 : decode b_M_bits 6 = .ok (.bipush 16, 2) := by decide +kernel
theorem d_M_bits_8 : decode b_M_bits 8 = .ok (.iload_n 1, 1) := by decide +kernel
theorem d_M_bits_9 : decode b_M_bits 9 = .ok (.iconst 1, 1) := by decide +kernel
theorem d_M_bits_10 : decode b_M_bits 10 = .ok (.isub, 1) := by decide +kernel
theorem d_M_bits_11 : decode b_M_bits 11 = .ok (.imul, 1) := by decide +kernel
theorem d_M_bits_12 : decode b_M_bits 12 = .ok (.istore_n 2, 1) := by decide +kernel
theorem d_M_bits_13 : decode b_M_bits 13 = .ok (.aload_n 0, 1) := by decide +kernel
theorem d_M_bits_14 : decode b_M_bits 14 = .ok (.iload_n 1, 1) := by decide +kernel
theorem d_M_bits_15 : decode b_M_bits 15 = .ok (.iconst 1, 1) := by decide +kernel
theorem d_M_bits_16 : decode b_M_bits 16 = .ok (.isub, 1) := by decide +kernel
theorem d_M_bits_17 : decode b_M_bits 17 = .ok (.iaload, 1) := by decide +kernel
theorem d_M_bits_18 : decode b_M_bits 18 = .ok (.istore_n 3, 1) := by decide +kernel
theorem d_M_bits_19 : decode b_M_bits 19 = .ok (.iload_n 3, 1) := by decide +kernel
theorem d_M_bits_20 : decode b_M_bits 20 = .ok (.ifCond .eq 13, 3) := by decide +kernel
theorem d_M_bits_23 : decode b_M_bits 23 = .ok (.iinc 2 1, 3) := by decide +kernel
theorem d_M_bits_26 : decode b_M_bits 26 = .ok (.iload_n 3, 1) := by decide +kernel
theorem d_M_bits_27 : decode b_M_bits 27 = .ok (.iconst 1, 1) := by decide +kernel
theorem d_M_bits_28 : decode b_M_bits 28 = .ok (.iushr, 1) := by decide +kernel
theorem d_M_bits_29 : decode b_M_bits 29 = .ok (.istore_n 3, 1) := by decide +kernel
theorem d_M_bits_30 : decode b_M_bits 30 = .ok (.goto (-11), 3) := by decide +kernel
theorem d_M_bits_33 : decode b_M_bits 33 = .ok (.iload_n 2, 1) := by decide +kernel
theorem d_M_bits_34 : decode b_M_bits 34 = .ok (.ireturn, 1) := by decide +kernel
theorem d_M_size0_0 : decode b_M_size0 0 = .ok (.aload_n 0, 1) := by decide +kernel
theorem d_M_size0_1 : decode b_M_size0 1 = .ok (.iload_n 1, 1) := by decide +kernel
theorem d_M_size0_2 : decode b_M_size0 2 = .ok (.aload_n 0, 1) := by decide +kernel
theorem d_M_size0_3 : decode b_M_size0 3 = .ok (.getfield 37, 3) := by decide +kernel
theorem d_M_size0_6 : decode b_M_size0 6 = .ok (.invokevirtual 72, 3) := by decide +kernel
theorem d_M_size0_9 : decode b_M_size0 9 = .ok (.istore_n 2, 1) := by decide +kernel
theorem d_M_size0_10 : decode b_M_size0 10 = .ok (.aload_n 0, 1) := by decide +kernel
theorem d_M_size0_11 : decode b_M_size0 11 = .ok (.getfield 37, 3) := by decide +kernel
theorem d_M_size0_14 : decode b_M_size0 14 = .ok (.iload_n 2, 1) := by decide +kernel
theorem d_M_size0_15 : decode b_M_size0 15 = .ok (.invokestatic 76, 3) := by decide +kernel
theorem d_M_size0_18 : decode b_M_size0 18 = .ok (.ireturn, 1) := by decide +kernel
theorem d_M_keep_0 : decode b_M_keep 0 = .ok (.aload_n 3, 1) := by decide +kernel
theorem d_M_keep_1 : decode b_M_keep 1 = .ok (.iload 4, 2) := by decide +kernel
theorem d_M_keep_3 : decode b_M_keep 3 = .ok (.invokestatic 54, 3) := by decide +kernel
theorem d_M_keep_6 : decode b_M_keep 6 = .ok (.istore 6, 2) := by decide +kernel
theorem d_M_keep_8 : decode b_M_keep 8 = .ok (.aload_n 0, 1) := by decide +kernel
theorem d_M_keep_9 : decode b_M_keep 9 = .ok (.aload_n 3, 1) := by decide +kernel
theorem d_M_keep_10 : decode b_M_keep 10 = .ok (.iload 6, 2) := by decide +kernel
theorem d_M_keep_12 : decode b_M_keep 12 = .ok (.invokestatic 76, 3) := by decide +kernel
theorem d_M_keep_15 : decode b_M_keep 15 = .ok (.sipush 2048, 3) := by decide +kernel
theorem d_M_keep_18 : decode b_M_keep 18 = .ok (.if_icmp .le 7, 3) := by decide +kernel
theorem d_M_keep_21 : decode b_M_keep 21 = .ok (.iconst 1, 1) := by decide +kernel
theorem d_M_keep_22 : decode b_M_keep 22 = .ok (.goto 4, 3) := by decide +kernel
theorem d_M_keep_25 : decode b_M_keep 25 = .ok (.iconst 0, 1) := by decide +kernel
theorem d_M_keep_26 : decode b_M_keep 26 = .ok (.iload 5, 2) := by decide +kernel
theorem d_M_keep_28 : decode b_M_keep 28 = .ok (.invokevirtual 79, 3) := by decide +kernel
theorem d_M_keep_31 : decode b_M_keep 31 = .ok (.ifCond .eq 5, 3) := by decide +kernel
theorem d_M_keep_34 : decode b_M_keep 34 = .ok (.iconst 0, 1) := by decide +kernel
theorem d_M_keep_35 : decode b_M_keep 35 = .ok (.ireturn, 1) := by decide +kernel
theorem d_M_keep_36 : decode b_M_keep 36 = .ok (.iconst 0, 1) := by decide +kernel
theorem d_M_keep_37 : decode b_M_keep 37 = .ok (.istore 7, 2) := by decide +kernel
theorem d_M_keep_39 : decode b_M_keep 39 = .ok (.iload 7, 2) := by decide +kernel
theorem d_M_keep_41 : decode b_M_keep 41 = .ok (.iload 6, 2) := by decide +kernel
theorem d_M_keep_43 : decode b_M_keep 43 = .ok (.if_icmp .ge 26, 3) := by decide +kernel
theorem d_M_keep_46 : decode b_M_keep 46 = .ok (.aload_n 0, 1) := by decide +kernel
theorem d_M_keep_47 : decode b_M_keep 47 = .ok (.getfield 9, 3) := by decide +kernel
theorem d_M_keep_50 : decode b_M_keep 50 = .ok (.sipush 129, 3) := by decide +kernel
theorem d_M_keep_53 : decode b_M_keep 53 = .ok (.iload_n 1, 1) := by decide +kernel
theorem d_M_keep_54 : decode b_M_keep 54 = .ok (.imul, 1) := by decide +kernel
theorem d_M_keep_55 : decode b_M_keep 55 = .ok (.iload 7, 2) := by decide +kernel
theorem d_M_keep_57 : decode b_M_keep 57 = .ok (.iadd, 1) := by decide +kernel
theorem d_M_keep_58 : decode b_M_keep 58 = .ok (.aload_n 3, 1) := by decide +kernel
theorem d_M_keep_59 : decode b_M_keep 59 = .ok (.iload 7, 2) := by decide +kernel
theorem d_M_keep_61 : decode b_M_keep 61 = .ok (.iaload, 1) := by decide +kernel
theorem d_M_keep_62 : decode b_M_keep 62 = .ok (.iastore, 1) := by decide +kernel
theorem d_M_keep_63 : decode b_M_keep 63 = .ok (.iinc 7 1, 3) := by decide +kernel
theorem d_M_keep_66 : decode b_M_keep 66 = .ok (.goto (-27), 3) := by decide +kernel
theorem d_M_keep_69 : decode b_M_keep 69 = .ok (.aload_n 0, 1) := by decide +kernel
theorem d_M_keep_70 : decode b_M_keep 70 = .ok (.getfield 13, 3) := by decide +kernel
theorem d_M_keep_73 : decode b_M_keep 73 = .ok (.iload_n 1, 1) := by decide +kernel
theorem d_M_keep_74 : decode b_M_keep 74 = .ok (.iload 6, 2) := by decide +kernel
theorem d_M_keep_76 : decode b_M_keep 76 = .ok (.iastore, 1) := by decide +kernel
theorem d_M_keep_77 : decode b_M_keep 77 = .ok (.aload_n 0, 1) := by decide +kernel
theorem d_M_keep_78 : decode b_M_keep 78 = .ok (.getfield 16, 3) := by decide +kernel
theorem d_M_keep_81 : decode b_M_keep 81 = .ok (.iload_n 1, 1) := by decide +kernel
theorem d_M_keep_82 : decode b_M_keep 82 = .ok (.iload 6, 2) := by decide +kernel
theorem d_M_keep_84 : decode b_M_keep 84 = .ok (.ifCond .ne 7, 3) := by decide +kernel
theorem d_M_keep_87 : decode b_M_keep 87 = .ok (.iconst 0, 1) := by decide +kernel
theorem d_M_keep_88 : decode b_M_keep 88 = .ok (.goto 4, 3) := by decide +kernel
theorem d_M_keep_91 : decode b_M_keep 91 = .ok (.iload_n 2, 1) := by decide +kernel
theorem d_M_keep_92 : decode b_M_keep 92 = .ok (.iastore, 1) := by decide +kernel
theorem d_M_keep_93 : decode b_M_keep 93 = .ok (.iconst 1, 1) := by decide +kernel
theorem d_M_keep_94 : decode b_M_keep 94 = .ok (.ireturn, 1) := by decide +kernel
theorem d_M_set_0 : decode b_M_set 0 = .ok (.aload_n 0, 1) := by decide +kernel
theorem d_M_set_1 : decode b_M_set 1 = .ok (.iconst 0, 1) := by decide +kernel
theorem d_M_set_2 : decode b_M_set 2 = .ok (.putfield 49, 3) := by decide +kernel
theorem d_M_set_5 : decode b_M_set 5 = .ok (.aload_n 0, 1) := by decide +kernel
theorem d_M_set_6 : decode b_M_set 6 = .ok (.iload_n 1, 1) := by decide +kernel
theorem d_M_set_7 : decode b_M_set 7 = .ok (.invokestatic 83, 3) := by decide +kernel
theorem d_M_set_10 : decode b_M_set 10 = .ok (.ifCond .ne 7, 3) := by decide +kernel
theorem d_M_set_13 : decode b_M_set 13 = .ok (.iconst 1, 1) := by decide +kernel
theorem d_M_set_14 : decode b_M_set 14 = .ok (.goto 4, 3) := by decide +kernel
theorem d_M_set_17 : decode b_M_set 17 = .ok (.iconst 0, 1) := by decide +kernel
theorem d_M_set_18 : decode b_M_set 18 = .ok (.iconst 1, 1) := by decide +kernel
theorem d_M_set_19 : decode b_M_set 19 = .ok (.invokevirtual 79, 3) := by decide +kernel
theorem d_M_set_22 : decode b_M_set 22 = .ok (.ifCond .eq 5, 3) := by decide +kernel
theorem d_M_set_25 : decode b_M_set 25 = .ok (.iconst 0, 1) := by decide +kernel
theorem d_M_set_26 : decode b_M_set 26 = .ok (.ireturn, 1) := by decide +kernel
theorem d_M_set_27 : decode b_M_set 27 = .ok (.aload_n 0, 1) := by decide +kernel
theorem d_M_set_28 : decode b_M_set 28 = .ok (.iload_n 1, 1) := by decide +kernel
theorem d_M_set_29 : decode b_M_set 29 = .ok (.invokevirtual 87, 3) := by decide +kernel
theorem d_M_set_32 : decode b_M_set 32 = .ok (.istore 4, 2) := by decide +kernel
theorem d_M_set_34 : decode b_M_set 34 = .ok (.iconst 0, 1) := by decide +kernel
theorem d_M_set_35 : decode b_M_set 35 = .ok (.istore 5, 2) := by decide +kernel
theorem d_M_set_37 : decode b_M_set 37 = .ok (.lload_n 2, 1) := by decide +kernel
theorem d_M_set_38 : decode b_M_set 38 = .ok (.lconst 0, 1) := by decide +kernel
theorem d_M_set_39 : decode b_M_set 39 = .ok (.lcmp, 1) := by decide +kernel
theorem d_M_set_40 : decode b_M_set 40 = .ok (.ifCond .ge 8, 3) := by decide +kernel
theorem d_M_set_43 : decode b_M_set 43 = .ok (.lload_n 2, 1) := by decide +kernel
theorem d_M_set_44 : decode b_M_set 44 = .ok (.lneg, 1) := by decide +kernel
theorem d_M_set_45 : decode b_M_set 45 = .ok (.goto 4, 3) := by decide +kernel
theorem d_M_set_48 : decode b_M_set 48 = .ok (.lload_n 2, 1) := by decide +kernel
theorem d_M_set_49 : decode b_M_set 49 = .ok (.lstore 6, 2) := by decide +kernel
theorem d_M_set_51 : decode b_M_set 51 = .ok (.lload 6, 2) := by decide +kernel
theorem d_M_set_53 : decode b_M_set 53 = .ok (.lconst 0, 1) := by decide +kernel
theorem d_M_set_54 : decode b_M_set 54 = .ok (.lcmp, 1) := by decide +kernel
theorem d_M_set_55 : decode b_M_set 55 = .ok (.ifCond .eq 30, 3) := by decide +kernel
theorem d_M_set_58 : decode b_M_set 58 = .ok (.aload_n 0, 1) := by decide +kernel
theorem d_M_set_59 : decode b_M_set 59 = .ok (.getfield 22, 3) := by decide +kernel
theorem d_M_set_62 : decode b_M_set 62 = .ok (.iload 5, 2) := by decide +kernel
theorem d_M_set_64 : decode b_M_set 64 = .ok (.iinc 5 1, 3) := by decide +kernel
theorem d_M_set_67 : decode b_M_set 67 = .ok (.lload 6, 2) := by decide +kernel
theorem d_M_set_69 : decode b_M_set 69 = .ok (.ldc2_w 58, 3) := by decide +kernel
theorem d_M_set_72 : decode b_M_set 72 = .ok (.land, 1) := by decide +kernel
theorem d_M_set_73 : decode b_M_set 73 = .ok (.l2i, 1) := by decide +kernel
theorem d_M_set_74 : decode b_M_set 74 = .ok (.iastore, 1) := by decide +kernel
theorem d_M_set_75 : decode b_M_set 75 = .ok (.lload 6, 2) := by decide +kernel
theorem d_M_set_77 : decode b_M_set 77 = .ok (.bipush 16, 2) := by decide +kernel
theorem d_M_set_79 : decode b_M_set 79 = .ok (.lushr, 1) := by decide +kernel
theorem d_M_set_80 : decode b_M_set 80 = .ok (.lstore 6, 2) := by decide +kernel
theorem d_M_set_82 : decode b_M_set 82 = .ok (.goto (-31), 3) := by decide +kernel
theorem d_M_set_85 : decode b_M_set 85 = .ok (.aload_n 0, 1) := by decide +kernel
theorem d_M_set_86 : decode b_M_set 86 = .ok (.iload_n 1, 1) := by decide +kernel
theorem d_M_set_87 : decode b_M_set 87 = .ok (.lload_n 2, 1) := by decide +kernel
theorem d_M_set_88 : decode b_M_set 88 = .ok (.lconst 0, 1) := by decide +kernel
theorem d_M_set_89 : decode b_M_set 89 = .ok (.lcmp, 1) := by decide +kernel
theorem d_M_set_90 : decode b_M_set 90 = .ok (.ifCond .ge 7, 3) := by decide +kernel
theorem d_M_set_93 : decode b_M_set 93 = .ok (.iconst (-1), 1) := by decide +kernel
theorem d_M_set_94 : decode b_M_set 94 = .ok (.goto 4, 3) := by decide +kernel
theorem d_M_set_97 : decode b_M_set 97 = .ok (.iconst 1, 1) := by decide +kernel
theorem d_M_set_98 : decode b_M_set 98 = .ok (.aload_n 0, 1) := by decide +kernel
theorem d_M_set_99 : decode b_M_set 99 = .ok (.getfield 22, 3) := by decide +kernel
theorem d_M_set_102 : decode b_M_set 102 = .ok (.iload 5, 2) := by decide +kernel
theorem d_M_set_104 : decode b_M_set 104 = .ok (.bipush 9, 2) := by decide +kernel
theorem d_M_set_106 : decode b_M_set 106 = .ok (.invokevirtual 91, 3) := by decide +kernel
theorem d_M_set_109 : decode b_M_set 109 = .ok (.pop, 1) := by decide +kernel
theorem d_M_set_110 : decode b_M_set 110 = .ok (.iload 4, 2) := by decide +kernel
theorem d_M_set_112 : decode b_M_set 112 = .ok (.ireturn, 1) := by decide +kernel
theorem d_M_line_0 : decode b_M_line 0 = .ok (.aload_n 0, 1) := by decide +kernel
