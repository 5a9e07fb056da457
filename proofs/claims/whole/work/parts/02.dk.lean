theorem d_M_residue_403 : decode b_M_residue 403 = .ok (.aload_n 0, 1) := by decide +kernel
theorem d_M_residue_404 : decode b_M_residue 404 = .ok (.getfield 28, 3) := by decide +kernel
theorem d_M_residue_407 : decode b_M_residue 407 = .ok (.invokevirtual 117, 3) := by decide +kernel
theorem d_M_residue_410 : decode b_M_residue 410 = .ok (.istore 8, 2) := by decide +kernel
theorem d_M_residue_412 : decode b_M_residue 412 = .ok (.iconst 0, 1) := by decide +kernel
theorem d_M_residue_413 : decode b_M_residue 413 = .ok (.istore 12, 2) := by decide +kernel
theorem d_M_residue_415 : decode b_M_residue 415 = .ok (.iload 12, 2) := by decide +kernel
theorem d_M_residue_417 : decode b_M_residue 417 = .ok (.iload 8, 2) := by decide +kernel
theorem d_M_residue_419 : decode b_M_residue 419 = .ok (.if_icmp .ge 23, 3) := by decide +kernel
theorem d_M_residue_422 : decode b_M_residue 422 = .ok (.aload_n 0, 1) := by decide +kernel
theorem d_M_residue_423 : decode b_M_residue 423 = .ok (.getfield 31, 3) := by decide +kernel
theorem d_M_residue_426 : decode b_M_residue 426 = .ok (.iload 12, 2) := by decide +kernel
theorem d_M_residue_428 : decode b_M_residue 428 = .ok (.aload_n 0, 1) := by decide +kernel
theorem d_M_residue_429 : decode b_M_residue 429 = .ok (.getfield 22, 3) := by decide +kernel
theorem d_M_residue_432 : decode b_M_residue 432 = .ok (.iload 12, 2) := by decide +kernel
theorem d_M_residue_434 : decode b_M_residue 434 = .ok (.iaload, 1) := by decide +kernel
theorem d_M_residue_435 : decode b_M_residue 435 = .ok (.iastore, 1) := by decide +kernel
theorem d_M_residue_436 : decode b_M_residue 436 = .ok (.iinc 12 1, 3) := by decide +kernel
theorem d_M_residue_439 : decode b_M_residue 439 = .ok (.goto (-24), 3) := by decide +kernel
theorem d_M_residue_442 : decode b_M_residue 442 = .ok (.iinc 11 (-1), 3) := by decide +kernel
theorem d_M_residue_445 : decode b_M_residue 445 = .ok (.goto (-171), 3) := by decide +kernel
theorem d_M_residue_448 : decode b_M_residue 448 = .ok (.iload 8, 2) := by decide +kernel
theorem d_M_residue_450 : decode b_M_residue 450 = .ok (.ifCond .le 27, 3) := by decide +kernel
theorem d_M_residue_453 : decode b_M_residue 453 = .ok (.iload 10, 2) := by decide +kernel
theorem d_M_residue_455 : decode b_M_residue 455 = .ok (.aload_n 0, 1) := by decide +kernel
theorem d_M_residue_456 : decode b_M_residue 456 = .ok (.getfield 16, 3) := by decide +kernel
theorem d_M_residue_459 : decode b_M_residue 459 = .ok (.iload 4, 2) := by decide +kernel
theorem d_M_residue_461 : decode b_M_residue 461 = .ok (.iaload, 1) := by decide +kernel
theorem d_M_residue_462 : decode b_M_residue 462 = .ok (.ifCond .ge 7, 3) := by decide +kernel
theorem d_M_residue_465 : decode b_M_residue 465 = .ok (.iconst 1, 1) := by decide +kernel
theorem d_M_residue_466 : decode b_M_residue 466 = .ok (.goto 4, 3) := by decide +kernel
theorem d_M_residue_469 : decode b_M_residue 469 = .ok (.iconst 0, 1) := by decide +kernel
theorem d_M_residue_470 : decode b_M_residue 470 = .ok (.if_icmp .eq 7, 3) := by decide +kernel
theorem d_M_residue_473 : decode b_M_residue 473 = .ok (.iconst 1, 1) := by decide +kernel
theorem d_M_residue_474 : decode b_M_residue 474 = .ok (.goto 4, 3) := by decide +kernel
theorem d_M_residue_477 : decode b_M_residue 477 = .ok (.iconst 0, 1) := by decide +kernel
theorem d_M_residue_478 : decode b_M_residue 478 = .ok (.istore 11, 2) := by decide +kernel
theorem d_M_residue_480 : decode b_M_residue 480 = .ok (.iload 11, 2) := by decide +kernel
theorem d_M_residue_482 : decode b_M_residue 482 = .ok (.ifCond .eq 47, 3) := by decide +kernel
theorem d_M_residue_485 : decode b_M_residue 485 = .ok (.aload_n 0, 1) := by decide +kernel
theorem d_M_residue_486 : decode b_M_residue 486 = .ok (.getfield 34, 3) := by decide +kernel
theorem d_M_residue_489 : decode b_M_residue 489 = .ok (.iload 6, 2) := by decide +kernel
theorem d_M_residue_491 : decode b_M_residue 491 = .ok (.aload_n 0, 1) := by decide +kernel
theorem d_M_residue_492 : decode b_M_residue 492 = .ok (.getfield 31, 3) := by decide +kernel
theorem d_M_residue_495 : decode b_M_residue 495 = .ok (.iload 8, 2) := by decide +kernel
theorem d_M_residue_497 : decode b_M_residue 497 = .ok (.aload_n 0, 1) := by decide +kernel
theorem d_M_residue_498 : decode b_M_residue 498 = .ok (.getfield 28, 3) := by decide +kernel
theorem d_M_residue_501 : decode b_M_residue 501 = .ok (.invokestatic 114, 3) := by decide +kernel
theorem d_M_residue_504 : decode b_M_residue 504 = .ok (.istore 8, 2) := by decide +kernel
theorem d_M_residue_506 : decode b_M_residue 506 = .ok (.aload_n 0, 1) := by decide +kernel
theorem d_M_residue_507 : decode b_M_residue 507 = .ok (.iload_n 1, 1) := by decide +kernel
theorem d_M_residue_508 : decode b_M_residue 508 = .ok (.aload_n 0, 1) := by decide +kernel
theorem d_M_residue_509 : decode b_M_residue 509 = .ok (.getfield 16, 3) := by decide +kernel
theorem d_M_residue_512 : decode b_M_residue 512 = .ok (.iload 4, 2) := by decide +kernel
theorem d_M_residue_514 : decode b_M_residue 514 = .ok (.iaload, 1) := by decide +kernel
theorem d_M_residue_515 : decode b_M_residue 515 = .ok (.aload_n 0, 1) := by decide +kernel
theorem d_M_residue_516 : decode b_M_residue 516 = .ok (.getfield 28, 3) := by decide +kernel
theorem d_M_residue_519 : decode b_M_residue 519 = .ok (.iload 8, 2) := by decide +kernel
theorem d_M_residue_521 : decode b_M_residue 521 = .ok (.iconst 2, 1) := by decide +kernel
theorem d_M_residue_522 : decode b_M_residue 522 = .ok (.invokevirtual 91, 3) := by decide +kernel
theorem d_M_residue_525 : decode b_M_residue 525 = .ok (.pop, 1) := by decide +kernel
theorem d_M_residue_526 : decode b_M_residue 526 = .ok (.goto 23, 3) := by decide +kernel
theorem d_M_residue_529 : decode b_M_residue 529 = .ok (.aload_n 0, 1) := by decide +kernel
theorem d_M_residue_530 : decode b_M_residue 530 = .ok (.iload_n 1, 1) := by decide +kernel
theorem d_M_residue_531 : decode b_M_residue 531 = .ok (.aload_n 0, 1) := by decide +kernel
theorem d_M_residue_532 : decode b_M_residue 532 = .ok (.getfield 16, 3) := by decide +kernel
theorem d_M_residue_535 : decode b_M_residue 535 = .ok (.iload 4, 2) := by decide +kernel
theorem d_M_residue_537 : decode b_M_residue 537 = .ok (.iaload, 1) := by decide +kernel
theorem d_M_residue_538 : decode b_M_residue 538 = .ok (.aload_n 0, 1) := by decide +kernel
theorem d_M_residue_539 : decode b_M_residue 539 = .ok (.getfield 31, 3) := by decide +kernel
theorem d_M_residue_542 : decode b_M_residue 542 = .ok (.iload 8, 2) := by decide +kernel
theorem d_M_residue_544 : decode b_M_residue 544 = .ok (.iconst 2, 1) := by decide +kernel
theorem d_M_residue_545 : decode b_M_residue 545 = .ok (.invokevirtual 91, 3) := by decide +kernel
theorem d_M_residue_548 : decode b_M_residue 548 = .ok (.pop, 1) := by decide +kernel
theorem d_M_residue_549 : decode b_M_residue 549 = .ok (.aload_n 0, 1) := by decide +kernel
theorem d_M_residue_550 : decode b_M_residue 550 = .ok (.getfield 16, 3) := by decide +kernel
theorem d_M_residue_553 : decode b_M_residue 553 = .ok (.iload_n 1, 1) := by decide +kernel
theorem d_M_residue_554 : decode b_M_residue 554 = .ok (.iaload, 1) := by decide +kernel
theorem d_M_residue_555 : decode b_M_residue 555 = .ok (.ireturn, 1) := by decide +kernel
theorem d_M_compare_0 : decode b_M_compare 0 = .ok (.aload_n 0, 1) := by decide +kernel
theorem d_M_compare_1 : decode b_M_compare 1 = .ok (.iconst 0, 1) := by decide +kernel
theorem d_M_compare_2 : decode b_M_compare 2 = .ok (.putfield 49, 3) := by decide +kernel
theorem d_M_compare_5 : decode b_M_compare 5 = .ok (.aload_n 0, 1) := by decide +kernel
theorem d_M_compare_6 : decode b_M_compare 6 = .ok (.iload_n 1, 1) := by decide +kernel
theorem d_M_compare_7 : decode b_M_compare 7 = .ok (.invokestatic 83, 3) := by decide +kernel
theorem d_M_compare_10 : decode b_M_compare 10 = .ok (.ifCond .eq 10, 3) := by decide +kernel
theorem d_M_compare_13 : decode b_M_compare 13 = .ok (.iload_n 2, 1) := by decide +kernel
theorem d_M_compare_14 : decode b_M_compare 14 = .ok (.invokestatic 83, 3) := by decide +kernel
theorem d_M_compare_17 : decode b_M_compare 17 = .ok (.ifCond .ne 7, 3) := by decide +kernel
theorem d_M_compare_20 : decode b_M_compare 20 = .ok (.iconst 1, 1) := by decide +kernel
theorem d_M_compare_21 : decode b_M_compare 21 = .ok (.goto 4, 3) := by decide +kernel
theorem d_M_compare_24 : decode b_M_compare 24 = .ok (.iconst 0, 1) := by decide +kernel
theorem d_M_compare_25 : decode b_M_compare 25 = .ok (.iconst 1, 1) := by decide +kernel
theorem d_M_compare_26 : decode b_M_compare 26 = .ok (.invokevirtual 79, 3) := by decide +kernel
theorem d_M_compare_29 : decode b_M_compare 29 = .ok (.ifCond .eq 5, 3) := by decide +kernel
theorem d_M_compare_32 : decode b_M_compare 32 = .ok (.iconst 0, 1) := by decide +kernel
theorem d_M_compare_33 : decode b_M_compare 33 = .ok (.ireturn, 1) := by decide +kernel
theorem d_M_compare_34 : decode b_M_compare 34 = .ok (.aload_n 0, 1) := by decide +kernel
theorem d_M_compare_35 : decode b_M_compare 35 = .ok (.getfield 16, 3) := by decide +kernel
theorem d_M_compare_38 : decode b_M_compare 38 = .ok (.iload_n 1, 1) := by decide +kernel
theorem d_M_compare_39 : decode b_M_compare 39 = .ok (.iaload, 1) := by decide +kernel
theorem d_M_compare_40 : decode b_M_compare 40 = .ok (.aload_n 0, 1) := by decide +kernel
theorem d_M_compare_41 : decode b_M_compare 41 = .ok (.getfield 16, 3) := by decide +kernel
theorem d_M_compare_44 : decode b_M_compare 44 = .ok (.iload_n 2, 1) := by decide +kernel
theorem d_M_compare_45 : decode b_M_compare 45 = .ok (.iaload, 1) := by decide +kernel
theorem d_M_compare_46 : decode b_M_compare 46 = .ok (.if_icmp .eq 24, 3) := by decide +kernel
theorem d_M_compare_49 : decode b_M_compare 49 = .ok (.aload_n 0, 1) := by decide +kernel
theorem d_M_compare_50 : decode b_M_compare 50 = .ok (.getfield 16, 3) := by decide +kernel
theorem d_M_compare_53 : decode b_M_compare 53 = .ok (.iload_n 1, 1) := by decide +kernel
theorem d_M_compare_54 : decode b_M_compare 54 = .ok (.iaload, 1) := by decide +kernel
theorem d_M_compare_55 : decode b_M_compare 55 = .ok (.aload_n 0, 1) := by decide +kernel
theorem d_M_compare_56 : decode b_M_compare 56 = .ok (.getfield 16, 3) := by decide +kernel
theorem d_M_compare_59 : decode b_M_compare 59 = .ok (.iload_n 2, 1) := by decide +kernel
theorem d_M_compare_60 : decode b_M_compare 60 = .ok (.iaload, 1) := by decide +kernel
theorem d_M_compare_61 : decode b_M_compare 61 = .ok (.if_icmp .ge 7, 3) := by decide +kernel
theorem d_M_compare_64 : decode b_M_compare 64 = .ok (.iconst (-1), 1) := by decide +kernel
theorem d_M_compare_65 : decode b_M_compare 65 = .ok (.goto 4, 3) := by decide +kernel
theorem d_M_compare_68 : decode b_M_compare 68 = .ok (.iconst 1, 1) := by decide +kernel
theorem d_M_compare_69 : decode b_M_compare 69 = .ok (.ireturn, 1) := by decide +kernel
theorem d_M_compare_70 : decode b_M_compare 70 = .ok (.aload_n 0, 1) := by decide +kernel
theorem d_M_compare_71 : decode b_M_compare 71 = .ok (.iload_n 1, 1) := by decide +kernel
theorem d_M_compare_72 : decode b_M_compare 72 = .ok (.aload_n 0, 1) := by decide +kernel
theorem d_M_compare_73 : decode b_M_compare 73 = .ok (.getfield 22, 3) := by decide +kernel
theorem d_M_compare_76 : decode b_M_compare 76 = .ok (.invokevirtual 72, 3) := by decide +kernel
theorem d_M_compare_79 : decode b_M_compare 79 = .ok (.istore_n 3, 1) := by decide +kernel
theorem d_M_compare_80 : decode b_M_compare 80 = .ok (.aload_n 0, 1) := by decide +kernel
theorem d_M_compare_81 : decode b_M_compare 81 = .ok (.iload_n 2, 1) := by decide +kernel
theorem d_M_compare_82 : decode b_M_compare 82 = .ok (.aload_n 0, 1) := by decide +kernel
theorem d_M_compare_83 : decode b_M_compare 83 = .ok (.getfield 25, 3) := by decide +kernel
theorem d_M_compare_86 : decode b_M_compare 86 = .ok (.invokevirtual 72, 3) := by decide +kernel
theorem d_M_compare_89 : decode b_M_compare 89 = .ok (.istore 4, 2) := by decide +kernel
theorem d_M_compare_91 : decode b_M_compare 91 = .ok (.aload_n 0, 1) := by decide +kernel
theorem d_M_compare_92 : decode b_M_compare 92 = .ok (.getfield 16, 3) := by decide +kernel
theorem d_M_compare_95 : decode b_M_compare 95 = .ok (.iload_n 1, 1) := by decide +kernel
theorem d_M_compare_96 : decode b_M_compare 96 = .ok (.iaload, 1) := by decide +kernel
theorem d_M_compare_97 : decode b_M_compare 97 = .ok (.aload_n 0, 1) := by decide +kernel
theorem d_M_compare_98 : decode b_M_compare 98 = .ok (.getfield 22, 3) := by decide +kernel
theorem d_M_compare_101 : decode b_M_compare 101 = .ok (.iload_n 3, 1) := by decide +kernel
theorem d_M_compare_102 : decode b_M_compare 102 = .ok (.aload_n 0, 1) := by decide +kernel
theorem d_M_compare_103 : decode b_M_compare 103 = .ok (.getfield 25, 3) := by decide +kernel
theorem d_M_compare_106 : decode b_M_compare 106 = .ok (.iload 4, 2) := by decide +kernel
theorem d_M_compare_108 : decode b_M_compare 108 = .ok (.invokestatic 60, 3) := by decide +kernel
theorem d_M_compare_111 : decode b_M_compare 111 = .ok (.imul, 1) := by decide +kernel
theorem d_M_compare_112 : decode b_M_compare 112 = .ok (.ireturn, 1) := by decide +kernel
theorem d_M_small_0 : decode b_M_small 0 = .ok (.aload_n 0, 1) := by decide +kernel
theorem d_M_small_1 : decode b_M_small 1 = .ok (.iconst 0, 1) := by decide +kernel
theorem d_M_small_2 : decode b_M_small 2 = .ok (.putfield 49, 3) := by decide +kernel
theorem d_M_small_5 : decode b_M_small 5 = .ok (.aload_n 0, 1) := by decide +kernel
theorem d_M_small_6 : decode b_M_small 6 = .ok (.iload_n 1, 1) := by decide +kernel
theorem d_M_small_7 : decode b_M_small 7 = .ok (.invokestatic 83, 3) := by decide +kernel
theorem d_M_small_10 : decode b_M_small 10 = .ok (.ifCond .ne 7, 3) := by decide +kernel
theorem d_M_small_13 : decode b_M_small 13 = .ok (.iconst 1, 1) := by decide +kernel
theorem d_M_small_14 : decode b_M_small 14 = .ok (.goto 4, 3) := by decide +kernel
theorem d_M_small_17 : decode b_M_small 17 = .ok (.iconst 0, 1) := by decide +kernel
theorem d_M_small_18 : decode b_M_small 18 = .ok (.iconst 1, 1) := by decide +kernel
theorem d_M_small_19 : decode b_M_small 19 = .ok (.invokevirtual 79, 3) := by decide +kernel
theorem d_M_small_22 : decode b_M_small 22 = .ok (.ifCond .eq 5, 3) := by decide +kernel
theorem d_M_small_25 : decode b_M_small 25 = .ok (.lconst 0, 1) := by decide +kernel
theorem d_M_small_26 : decode b_M_small 26 = .ok (.lreturn, 1) := by decide +kernel
theorem d_M_small_27 : decode b_M_small 27 = .ok (.aload_n 0, 1) := by decide +kernel
theorem d_M_small_28 : decode b_M_small 28 = .ok (.iload_n 1, 1) := by decide +kernel
theorem d_M_small_29 : decode b_M_small 29 = .ok (.aload_n 0, 1) := by decide +kernel
theorem d_M_small_30 : decode b_M_small 30 = .ok (.getfield 22, 3) := by decide +kernel
theorem d_M_small_33 : decode b_M_small 33 = .ok (.invokevirtual 72, 3) := by decide +kernel
theorem d_M_small_36 : decode b_M_small 36 = .ok (.istore_n 2, 1) := by decide +kernel
theorem d_M_small_37 : decode b_M_small 37 = .ok (.aload_n 0, 1) := by decide +kernel
theorem d_M_small_38 : decode b_M_small 38 = .ok (.iload_n 2, 1) := by decide +kernel
theorem d_M_small_39 : decode b_M_small 39 = .ok (.invokevirtual 134, 3) := by decide +kernel
theorem d_M_small_42 : decode b_M_small 42 = .ok (.lstore_n 3, 1) := by decide +kernel
theorem d_M_small_43 : decode b_M_small 43 = .ok (.aload_n 0, 1) := by decide +kernel
theorem d_M_small_44 : decode b_M_small 44 = .ok (.getfield 22, 3) := by decide +kernel
theorem d_M_small_47 : decode b_M_small 47 = .ok (.iload_n 2, 1) := by decide +kernel
theorem d_M_small_48 : decode b_M_small 48 = .ok (.invokestatic 76, 3) := by decide +kernel
theorem d_M_small_51 : decode b_M_small 51 = .ok (.bipush 64, 2) := by decide +kernel
theorem d_M_small_53 : decode b_M_small 53 = .ok (.if_icmp .lt 33, 3) := by decide +kernel
theorem d_M_small_56 : decode b_M_small 56 = .ok (.aload_n 0, 1) := by decide +kernel
theorem d_M_small_57 : decode b_M_small 57 = .ok (.getfield 22, 3) := by decide +kernel
theorem d_M_small_60 : decode b_M_small 60 = .ok (.iload_n 2, 1) := by decide +kernel
theorem d_M_small_61 : decode b_M_small 61 = .ok (.invokestatic 76, 3) := by decide +kernel
theorem d_M_small_64 : decode b_M_small 64 = .ok (.bipush 64, 2) := by decide +kernel
theorem d_M_small_66 : decode b_M_small 66 = .ok (.if_icmp .ne 24, 3) := by decide +kernel
theorem d_M_small_69 : decode b_M_small 69 = .ok (.aload_n 0, 1) := by decide +kernel
theorem d_M_small_70 : decode b_M_small 70 = .ok (.getfield 16, 3) := by decide +kernel
theorem d_M_small_73 : decode b_M_small 73 = .ok (.iload_n 1, 1) := by decide +kernel
theorem d_M_small_74 : decode b_M_small 74 = .ok (.iaload, 1) := by decide +kernel
theorem d_M_small_75 : decode b_M_small 75 = .ok (.ifCond .ge 15, 3) := by decide +kernel
theorem d_M_small_78 : decode b_M_small 78 = .ok (.lload_n 3, 1) := by decide +kernel
theorem d_M_small_79 : decode b_M_small 79 = .ok (.ldc2_w 140, 3) := by decide +kernel
theorem d_M_small_82 : decode b_M_small 82 = .ok (.lcmp, 1) := by decide +kernel
theorem d_M_small_83 : decode b_M_small 83 = .ok (.ifCond .ne 7, 3) := by decide +kernel
theorem d_M_small_86 : decode b_M_small 86 = .ok (.iconst 1, 1) := by decide +kernel
theorem d_M_small_87 : decode b_M_small 87 = .ok (.goto 4, 3) := by decide +kernel
theorem d_M_small_90 : decode b_M_small 90 = .ok (.iconst 0, 1) := by decide +kernel
theorem d_M_small_91 : decode b_M_small 91 = .ok (.istore 5, 2) := by decide +kernel
theorem d_M_small_93 : decode b_M_small 93 = .ok (.aload_n 0, 1) := by decide +kernel
theorem d_M_small_94 : decode b_M_small 94 = .ok (.iload 5, 2) := by decide +kernel
theorem d_M_small_96 : decode b_M_small 96 = .ok (.ifCond .ne 7, 3) := by decide +kernel
theorem d_M_small_99 : decode b_M_small 99 = .ok (.iconst 1, 1) := by decide +kernel
theorem d_M_small_100 : decode b_M_small 100 = .ok (.goto 4, 3) := by decide +kernel
theorem d_M_small_103 : decode b_M_small 103 = .ok (.iconst 0, 1) := by decide +kernel
theorem d_M_small_104 : decode b_M_small 104 = .ok (.iconst 2, 1) := by decide +kernel
theorem d_M_small_105 : decode b_M_small 105 = .ok (.invokevirtual 79, 3) := by decide +kernel
theorem d_M_small_108 : decode b_M_small 108 = .ok (.ifCond .eq 7, 3) := by decide +kernel
theorem d_M_small_111 : decode b_M_small 111 = .ok (.lconst 0, 1) := by decide +kernel
theorem d_M_small_112 : decode b_M_small 112 = .ok (.goto 18, 3) := by decide +kernel
theorem d_M_small_115 : decode b_M_small 115 = .ok (.aload_n 0, 1) := by decide +kernel
theorem d_M_small_116 : decode b_M_small 116 = .ok (.getfield 16, 3) := by decide +kernel
theorem d_M_small_119 : decode b_M_small 119 = .ok (.iload_n 1, 1) := by decide +kernel
theorem d_M_small_120 : decode b_M_small 120 = .ok (.iaload, 1) := by decide +kernel
theorem d_M_small_121 : decode b_M_small 121 = .ok (.ifCond .ge 8, 3) := by decide +kernel
theorem d_M_small_124 : decode b_M_small 124 = .ok (.lload_n 3, 1) := by decide +kernel
theorem d_M_small_125 : decode b_M_small 125 = .ok (.lneg, 1) := by decide +kernel
theorem d_M_small_126 : decode b_M_small 126 = .ok (.goto 4, 3) := by decide +kernel
theorem d_M_small_129 : decode b_M_small 129 = .ok (.lload_n 3, 1) := by decide +kernel
theorem d_M_small_130 : decode b_M_small 130 = .ok (.lreturn, 1) := by decide +kernel
theorem d_M_low64_0 : decode b_M_low64 0 = .ok (.lconst 0, 1) := by decide +kernel
theorem d_M_low64_1 : decode b_M_low64 1 = .ok (.lstore_n 2, 1) := by decide +kernel
theorem d_M_low64_2 : decode b_M_low64 2 = .ok (.iconst 3, 1) := by decide +kernel
theorem d_M_low64_3 : decode b_M_low64 3 = .ok (.istore 4, 2) := by decide +kernel
theorem d_M_low64_5 : decode b_M_low64 5 = .ok (.iload 4, 2) := by decide +kernel
theorem d_M_low64_7 : decode b_M_low64 7 = .ok (.ifCond .lt 33, 3) := by decide +kernel
theorem d_M_low64_10 : decode b_M_low64 10 = .ok (.lload_n 2, 1) := by decide +kernel
theorem d_M_low64_11 : decode b_M_low64 11 = .ok (.bipush 16, 2) := by decide +kernel
theorem d_M_low64_13 : decode b_M_low64 13 = .ok (.lshl, 1) := by decide +kernel
theorem d_M_low64_14 : decode b_M_low64 14 = .ok (.iload 4, 2) := by decide +kernel
theorem d_M_low64_16 : decode b_M_low64 16 = .ok (.iload_n 1, 1) := by decide +kernel
theorem d_M_low64_17 : decode b_M_low64 17 = .ok (.if_icmp .ge 13, 3) := by decide +kernel
theorem d_M_low64_20 : decode b_M_low64 20 = .ok (.aload_n 0, 1) := by decide +kernel
theorem d_M_low64_21 : decode b_M_low64 21 = .ok (.getfield 22, 3) := by decide +kernel
theorem d_M_low64_24 : decode b_M_low64 24 = .ok (.iload 4, 2) := by decide +kernel
theorem d_M_low64_26 : decode b_M_low64 26 = .ok (.iaload, 1) := by decide +kernel
theorem d_M_low64_27 : decode b_M_low64 27 = .ok (.goto 4, 3) := by decide +kernel
theorem d_M_low64_30 : decode b_M_low64 30 = .ok (.iconst 0, 1) := by decide +kernel
theorem d_M_low64_31 : decode b_M_low64 31 = .ok (.i2l, 1) := by decide +kernel
theorem d_M_low64_32 : decode b_M_low64 32 = .ok (.lor, 1) := by decide +kernel
theorem d_M_low64_33 : decode b_M_low64 33 = .ok (.lstore_n 2, 1) := by decide +kernel
theorem d_M_low64_34 : decode b_M_low64 34 = .ok (.iinc 4 (-1), 3) := by decide +kernel
theorem d_M_low64_37 : decode b_M_low64 37 = .ok (.goto (-32), 3) := by decide +kernel
theorem d_M_low64_40 : decode b_M_low64 40 = .ok (.lload_n 2, 1) := by decide +kernel
theorem d_M_low64_41 : decode b_M_low64 41 = .ok (.lreturn, 1) := by decide +kernel
theorem d_M_low_0 : decode b_M_low 0 = .ok (.aload_n 0, 1) := by decide +kernel
theorem d_M_low_1 : decode b_M_low 1 = .ok (.iconst 0, 1) := by decide +kernel
theorem d_M_low_2 : decode b_M_low 2 = .ok (.putfield 49, 3) := by decide +kernel
theorem d_M_low_5 : decode b_M_low 5 = .ok (.aload_n 0, 1) := by decide +kernel
theorem d_M_low_6 : decode b_M_low 6 = .ok (.iload_n 1, 1) := by decide +kernel
theorem d_M_low_7 : decode b_M_low 7 = .ok (.invokestatic 83, 3) := by decide +kernel
theorem d_M_low_10 : decode b_M_low 10 = .ok (.ifCond .ne 7, 3) := by decide +kernel
theorem d_M_low_13 : decode b_M_low 13 = .ok (.iconst 1, 1) := by decide +kernel
theorem d_M_low_14 : decode b_M_low 14 = .ok (.goto 4, 3) := by decide +kernel
theorem d_M_low_17 : decode b_M_low 17 = .ok (.iconst 0, 1) := by decide +kernel
theorem d_M_low_18 : decode b_M_low 18 = .ok (.iconst 1, 1) := by decide +kernel
theorem d_M_low_19 : decode b_M_low 19 = .ok (.invokevirtual 79, 3) := by decide +kernel
theorem d_M_low_22 : decode b_M_low 22 = .ok (.ifCond .eq 5, 3) := by decide +kernel
theorem d_M_low_25 : decode b_M_low 25 = .ok (.lconst 0, 1) := by decide +kernel
theorem d_M_low_26 : decode b_M_low 26 = .ok (.lreturn, 1) := by decide +kernel
theorem d_M_low_27 : decode b_M_low 27 = .ok (.aload_n 0, 1) := by decide +kernel
theorem d_M_low_28 : decode b_M_low 28 = .ok (.aload_n 0, 1) := by decide +kernel
theorem d_M_low_29 : decode b_M_low 29 = .ok (.iload_n 1, 1) := by decide +kernel
theorem d_M_low_30 : decode b_M_low 30 = .ok (.aload_n 0, 1) := by decide +kernel
theorem d_M_low_31 : decode b_M_low 31 = .ok (.getfield 22, 3) := by decide +kernel
theorem d_M_low_34 : decode b_M_low 34 = .ok (.invokevirtual 72, 3) := by decide +kernel
theorem d_M_low_37 : decode b_M_low 37 = .ok (.invokevirtual 134, 3) := by decide +kernel
theorem d_M_low_40 : decode b_M_low 40 = .ok (.lstore_n 2, 1) := by decide +kernel
theorem d_M_low_41 : decode b_M_low 41 = .ok (.aload_n 0, 1) := by decide +kernel
theorem d_M_low_42 : decode b_M_low 42 = .ok (.getfield 16, 3) := by decide +kernel
theorem d_M_low_45 : decode b_M_low 45 = .ok (.iload_n 1, 1) := by decide +kernel
theorem d_M_low_46 : decode b_M_low 46 = .ok (.iaload, 1) := by decide +kernel
theorem d_M_low_47 : decode b_M_low 47 = .ok (.ifCond .ge 8, 3) := by decide +kernel
theorem d_M_low_50 : decode b_M_low 50 = .ok (.lload_n 2, 1) := by decide +kernel
theorem d_M_low_51 : decode b_M_low 51 = .ok (.lneg, 1) := by decide +kernel
theorem d_M_low_52 : decode b_M_low 52 = .ok (.goto 4, 3) := by decide +kernel
theorem d_M_low_55 : decode b_M_low 55 = .ok (.lload_n 2, 1) := by decide +kernel
theorem d_M_low_56 : decode b_M_low 56 = .ok (.lreturn, 1) := by decide +kernel
theorem d_M_folded_0 : decode b_M_folded 0 = .ok (.aload_n 0, 1) := by decide +kernel
theorem d_M_folded_1 : decode b_M_folded 1 = .ok (.iconst 0, 1) := by decide +kernel
theorem d_M_folded_2 : decode b_M_folded 2 = .ok (.putfield 49, 3) := by decide +kernel
theorem d_M_folded_5 : decode b_M_folded 5 = .ok (.aload_n 0, 1) := by decide +kernel
theorem d_M_folded_6 : decode b_M_folded 6 = .ok (.iload_n 1, 1) := by decide +kernel
theorem d_M_folded_7 : decode b_M_folded 7 = .ok (.invokestatic 83, 3) := by decide +kernel
theorem d_M_folded_10 : decode b_M_folded 10 = .ok (.ifCond .ne 7, 3) := by decide +kernel
theorem d_M_folded_13 : decode b_M_folded 13 = .ok (.iconst 1, 1) := by decide +kernel
theorem d_M_folded_14 : decode b_M_folded 14 = .ok (.goto 4, 3) := by decide +kernel
theorem d_M_folded_17 : decode b_M_folded 17 = .ok (.iconst 0, 1) := by decide +kernel
theorem d_M_folded_18 : decode b_M_folded 18 = .ok (.iconst 1, 1) := by decide +kernel
theorem d_M_folded_19 : decode b_M_folded 19 = .ok (.invokevirtual 79, 3) := by decide +kernel
theorem d_M_folded_22 : decode b_M_folded 22 = .ok (.ifCond .eq 5, 3) := by decide +kernel
theorem d_M_folded_25 : decode b_M_folded 25 = .ok (.lconst 0, 1) := by decide +kernel
theorem d_M_folded_26 : decode b_M_folded 26 = .ok (.lreturn, 1) := by decide +kernel
theorem d_M_folded_27 : decode b_M_folded 27 = .ok (.aload_n 0, 1) := by decide +kernel
theorem d_M_folded_28 : decode b_M_folded 28 = .ok (.iload_n 1, 1) := by decide +kernel
theorem d_M_folded_29 : decode b_M_folded 29 = .ok (.aload_n 0, 1) := by decide +kernel
theorem d_M_folded_30 : decode b_M_folded 30 = .ok (.getfield 22, 3) := by decide +kernel
theorem d_M_folded_33 : decode b_M_folded 33 = .ok (.invokevirtual 72, 3) := by decide +kernel
theorem d_M_folded_36 : decode b_M_folded 36 = .ok (.istore_n 2, 1) := by decide +kernel
theorem d_M_folded_37 : decode b_M_folded 37 = .ok (.lconst 0, 1) := by decide +kernel
theorem d_M_folded_38 : decode b_M_folded 38 = .ok (.lstore_n 3, 1) := by decide +kernel
theorem d_M_folded_39 : decode b_M_folded 39 = .ok (.ldc2_w 142, 3) := by decide +kernel
theorem d_M_folded_42 : decode b_M_folded 42 = .ok (.lstore 5, 2) := by decide +kernel
theorem d_M_folded_44 : decode b_M_folded 44 = .ok (.iload_n 2, 1) := by decide +kernel
theorem d_M_folded_45 : decode b_M_folded 45 = .ok (.iconst 1, 1) := by decide +kernel
theorem d_M_folded_46 : decode b_M_folded 46 = .ok (.isub, 1) := by decide +kernel
theorem d_M_folded_47 : decode b_M_folded 47 = .ok (.istore 7, 2) := by decide +kernel
theorem d_M_folded_49 : decode b_M_folded 49 = .ok (.iload 7, 2) := by decide +kernel
theorem d_M_folded_51 : decode b_M_folded 51 = .ok (.ifCond .lt 57, 3) := by decide +kernel
theorem d_M_folded_54 : decode b_M_folded 54 = .ok (.iconst 0, 1) := by decide +kernel
theorem d_M_folded_55 : decode b_M_folded 55 = .ok (.istore 8, 2) := by decide +kernel
theorem d_M_folded_57 : decode b_M_folded 57 = .ok (.iload 8, 2) := by decide +kernel
theorem d_M_folded_59 : decode b_M_folded 59 = .ok (.bipush 16, 2) := by decide +kernel
theorem d_M_folded_61 : decode b_M_folded 61 = .ok (.if_icmp .ge 27, 3) := by decide +kernel
theorem d_M_folded_64 : decode b_M_folded 64 = .ok (.ldc2_w 144, 3) := by decide +kernel
theorem d_M_folded_67 : decode b_M_folded 67 = .ok (.lload_n 3, 1) := by decide +kernel
theorem d_M_folded_68 : decode b_M_folded 68 = .ok (.lmul, 1) := by decide +kernel
theorem d_M_folded_69 : decode b_M_folded 69 = .ok (.lstore_n 3, 1) := by decide +kernel
theorem d_M_folded_70 : decode b_M_folded 70 = .ok (.lload_n 3, 1) := by decide +kernel
theorem d_M_folded_71 : decode b_M_folded 71 = .ok (.lload 5, 2) := by decide +kernel
theorem d_M_folded_73 : decode b_M_folded 73 = .ok (.lcmp, 1) := by decide +kernel
theorem d_M_folded_74 : decode b_M_folded 74 = .ok (.ifCond .lt 8, 3) := by decide +kernel
theorem d_M_folded_77 : decode b_M_folded 77 = .ok (.lload_n 3, 1) := by decide +kernel
theorem d_M_folded_78 : decode b_M_folded 78 = .ok (.lload 5, 2) := by decide +kernel
theorem d_M_folded_80 : decode b_M_folded 80 = .ok (.lsub, 1) := by decide +kernel
theorem d_M_folded_81 : decode b_M_folded 81 = .ok (.lstore_n 3, 1) := by decide +kernel
theorem d_M_folded_82 : decode b_M_folded 82 = .ok (.iinc 8 1, 3) := by decide +kernel
theorem d_M_folded_85 : decode b_M_folded 85 = .ok (.goto (-28), 3) := by decide +kernel
theorem d_M_folded_88 : decode b_M_folded 88 = .ok (.lload_n 3, 1) := by decide +kernel
theorem d_M_folded_89 : decode b_M_folded 89 = .ok (.aload_n 0, 1) := by decide +kernel
theorem d_M_folded_90 : decode b_M_folded 90 = .ok (.getfield 22, 3) := by decide +kernel
theorem d_M_folded_93 : decode b_M_folded 93 = .ok (.iload 7, 2) := by decide +kernel
theorem d_M_folded_95 : decode b_M_folded 95 = .ok (.iaload, 1) := by decide +kernel
theorem d_M_folded_96 : decode b_M_folded 96 = .ok (.i2l, 1) := by decide +kernel
theorem d_M_folded_97 : decode b_M_folded 97 = .ok (.ladd, 1) := by decide +kernel
theorem d_M_folded_98 : decode b_M_folded 98 = .ok (.lload 5, 2) := by decide +kernel
theorem d_M_folded_100 : decode b_M_folded 100 = .ok (.lrem, 1) := by decide +kernel
theorem d_M_folded_101 : decode b_M_folded 101 = .ok (.lstore_n 3, 1) := by decide +kernel
theorem d_M_folded_102 : decode b_M_folded 102 = .ok (.iinc 7 (-1), 3) := by decide +kernel
theorem d_M_folded_105 : decode b_M_folded 105 = .ok (.goto (-56), 3) := by decide +kernel
theorem d_M_folded_108 : decode b_M_folded 108 = .ok (.aload_n 0, 1) := by decide +kernel
theorem d_M_folded_109 : decode b_M_folded 109 = .ok (.getfield 16, 3) := by decide +kernel
theorem d_M_folded_112 : decode b_M_folded 112 = .ok (.iload_n 1, 1) := by decide +kernel
theorem d_M_folded_113 : decode b_M_folded 113 = .ok (.iaload, 1) := by decide +kernel
theorem d_M_folded_114 : decode b_M_folded 114 = .ok (.ifCond .ge 8, 3) := by decide +kernel
theorem d_M_folded_117 : decode b_M_folded 117 = .ok (.lload_n 3, 1) := by decide +kernel
theorem d_M_folded_118 : decode b_M_folded 118 = .ok (.lneg, 1) := by decide +kernel
theorem d_M_folded_119 : decode b_M_folded 119 = .ok (.goto 4, 3) := by decide +kernel
theorem d_M_folded_122 : decode b_M_folded 122 = .ok (.lload_n 3, 1) := by decide +kernel
theorem d_M_folded_123 : decode b_M_folded 123 = .ok (.lreturn, 1) := by decide +kernel
theorem d_M_size_0 : decode b_M_size 0 = .ok (.aload_n 0, 1) := by decide +kernel
theorem d_M_size_1 : decode b_M_size 1 = .ok (.iconst 0, 1) := by decide +kernel
theorem d_M_size_2 : decode b_M_size 2 = .ok (.putfield 49, 3) := by decide +kernel
theorem d_M_size_5 : decode b_M_size 5 = .ok (.aload_n 0, 1) := by decide +kernel
theorem d_M_size_6 : decode b_M_size 6 = .ok (.iload_n 1, 1) := by decide +kernel
theorem d_M_size_7 : decode b_M_size 7 = .ok (.invokestatic 83, 3) := by decide +kernel
theorem d_M_size_10 : decode b_M_size 10 = .ok (.ifCond .ne 7, 3) := by decide +kernel
theorem d_M_size_13 : decode b_M_size 13 = .ok (.iconst 1, 1) := by decide +kernel
theorem d_M_size_14 : decode b_M_size 14 = .ok (.goto 4, 3) := by decide +kernel
theorem d_M_size_17 : decode b_M_size 17 = .ok (.iconst 0, 1) := by decide +kernel
theorem d_M_size_18 : decode b_M_size 18 = .ok (.iconst 1, 1) := by decide +kernel
theorem d_M_size_19 : decode b_M_size 19 = .ok (.invokevirtual 79, 3) := by decide +kernel
theorem d_M_size_22 : decode b_M_size 22 = .ok (.ifCond .eq 7, 3) := by decide +kernel
theorem d_M_size_25 : decode b_M_size 25 = .ok (.iconst 0, 1) := by decide +kernel
theorem d_M_size_26 : decode b_M_size 26 = .ok (.goto 8, 3) := by decide +kernel
theorem d_M_size_29 : decode b_M_size 29 = .ok (.aload_n 0, 1) := by decide +kernel
theorem d_M_size_30 : decode b_M_size 30 = .ok (.iload_n 1, 1) := by decide +kernel
theorem d_M_size_31 : decode b_M_size 31 = .ok (.invokevirtual 87, 3) := by decide +kernel
theorem d_M_size_34 : decode b_M_size 34 = .ok (.ireturn, 1) := by decide +kernel
theorem d_L_set_0 : decode b_L_set 0 = .ok (.aload 4, 2) := by decide +kernel
theorem d_L_set_2 : decode b_L_set 2 = .ok (.iconst 0, 1) := by decide +kernel
theorem d_L_set_3 : decode b_L_set 3 = .ok (.aload_n 0, 1) := by decide +kernel
theorem d_L_set_4 : decode b_L_set 4 = .ok (.iload_n 1, 1) := by decide +kernel
theorem d_L_set_5 : decode b_L_set 5 = .ok (.lload_n 2, 1) := by decide +kernel
theorem d_L_set_6 : decode b_L_set 6 = .ok (.invokevirtual 7, 3) := by decide +kernel
theorem d_L_set_9 : decode b_L_set 9 = .ok (.i2l, 1) := by decide +kernel
theorem d_L_set_10 : decode b_L_set 10 = .ok (.lastore, 1) := by decide +kernel
theorem d_L_set_11 : decode b_L_set 11 = .ok (.goto 7, 3) := by decide +kernel
theorem d_L_set_14 : decode b_L_set 14 = .ok (.astore 5, 2) := by decide +kernel
theorem d_L_set_16 : decode b_L_set 16 = .ok (.iconst 1, 1) := by decide +kernel
theorem d_L_set_17 : decode b_L_set 17 = .ok (.ireturn, 1) := by decide +kernel
theorem d_L_set_18 : decode b_L_set 18 = .ok (.iconst 0, 1) := by decide +kernel
theorem d_L_set_19 : decode b_L_set 19 = .ok (.ireturn, 1) := by decide +kernel
theorem d_L_line_0 : decode b_L_line 0 = .ok (.aload_n 3, 1) := by decide +kernel
theorem d_L_line_1 : decode b_L_line 1 = .ok (.iconst 0, 1) := by decide +kernel
theorem d_L_line_2 : decode b_L_line 2 = .ok (.aload_n 0, 1) := by decide +kernel
theorem d_L_line_3 : decode b_L_line 3 = .ok (.lload_n 1, 1) := by decide +kernel
theorem d_L_line_4 : decode b_L_line 4 = .ok (.invokevirtual 15, 3) := by decide +kernel
theorem d_L_line_7 : decode b_L_line 7 = .ok (.i2l, 1) := by decide +kernel
theorem d_L_line_8 : decode b_L_line 8 = .ok (.lastore, 1) := by decide +kernel
theorem d_L_line_9 : decode b_L_line 9 = .ok (.goto 11, 3) := by decide +kernel
theorem d_L_line_12 : decode b_L_line 12 = .ok (.astore 4, 2) := by decide +kernel
theorem d_L_line_14 : decode b_L_line 14 = .ok (.iconst 1, 1) := by decide +kernel
theorem d_L_line_15 : decode b_L_line 15 = .ok (.ireturn, 1) := by decide +kernel
theorem d_L_line_16 : decode b_L_line 16 = .ok (.astore 4, 2) := by decide +kernel
theorem d_L_line_18 : decode b_L_line 18 = .ok (.iconst 2, 1) := by decide +kernel
theorem d_L_line_19 : decode b_L_line 19 = .ok (.ireturn, 1) := by decide +kernel
theorem d_L_line_20 : decode b_L_line 20 = .ok (.iconst 0, 1) := by decide +kernel
theorem d_L_line_21 : decode b_L_line 21 = .ok (.ireturn, 1) := by decide +kernel
theorem d_L_read_0 : decode b_L_read 0 = .ok (.aload_n 3, 1) := by decide +kernel
theorem d_L_read_1 : decode b_L_read 1 = .ok (.iconst 0, 1) := by decide +kernel
theorem d_L_read_2 : decode b_L_read 2 = .ok (.aload_n 0, 1) := by decide +kernel
theorem d_L_read_3 : decode b_L_read 3 = .ok (.iload_n 1, 1) := by decide +kernel
theorem d_L_read_4 : decode b_L_read 4 = .ok (.iload_n 2, 1) := by decide +kernel
theorem d_L_read_5 : decode b_L_read 5 = .ok (.invokevirtual 21, 3) := by decide +kernel
theorem d_L_read_8 : decode b_L_read 8 = .ok (.i2l, 1) := by decide +kernel
theorem d_L_read_9 : decode b_L_read 9 = .ok (.lastore, 1) := by decide +kernel
theorem d_L_read_10 : decode b_L_read 10 = .ok (.goto 11, 3) := by decide +kernel
theorem d_L_read_13 : decode b_L_read 13 = .ok (.astore 4, 2) := by decide +kernel
theorem d_L_read_15 : decode b_L_read 15 = .ok (.iconst 1, 1) := by decide +kernel
theorem d_L_read_16 : decode b_L_read 16 = .ok (.ireturn, 1) := by decide +kernel
theorem d_L_read_17 : decode b_L_read 17 = .ok (.astore 4, 2) := by decide +kernel
theorem d_L_read_19 : decode b_L_read 19 = .ok (.iconst 2, 1) := by decide +kernel
theorem d_L_read_20 : decode b_L_read 20 = .ok (.ireturn, 1) := by decide +kernel
theorem d_L_read_21 : decode b_L_read 21 = .ok (.iconst 0, 1) := by decide +kernel
theorem d_L_read_22 : decode b_L_read 22 = .ok (.ireturn, 1) := by decide +kernel
theorem d_L_show_0 : decode b_L_show 0 = .ok (.aload_n 3, 1) := by decide +kernel
theorem d_L_show_1 : decode b_L_show 1 = .ok (.iconst 0, 1) := by decide +kernel
theorem d_L_show_2 : decode b_L_show 2 = .ok (.aload_n 0, 1) := by decide +kernel
theorem d_L_show_3 : decode b_L_show 3 = .ok (.iload_n 1, 1) := by decide +kernel
theorem d_L_show_4 : decode b_L_show 4 = .ok (.iload_n 2, 1) := by decide +kernel
theorem d_L_show_5 : decode b_L_show 5 = .ok (.invokevirtual 27, 3) := by decide +kernel
theorem d_L_show_8 : decode b_L_show 8 = .ok (.i2l, 1) := by decide +kernel
theorem d_L_show_9 : decode b_L_show 9 = .ok (.lastore, 1) := by decide +kernel
theorem d_L_show_10 : decode b_L_show 10 = .ok (.goto 7, 3) := by decide +kernel
theorem d_L_show_13 : decode b_L_show 13 = .ok (.astore 4, 2) := by decide +kernel
theorem d_L_show_15 : decode b_L_show 15 = .ok (.iconst 1, 1) := by decide +kernel
theorem d_L_show_16 : decode b_L_show 16 = .ok (.ireturn, 1) := by decide +kernel
theorem d_L_show_17 : decode b_L_show 17 = .ok (.iconst 0, 1) := by decide +kernel
theorem d_L_show_18 : decode b_L_show 18 = .ok (.ireturn, 1) := by decide +kernel
theorem d_L_letter_0 : decode b_L_letter 0 = .ok (.aload_n 2, 1) := by decide +kernel
theorem d_L_letter_1 : decode b_L_letter 1 = .ok (.iconst 0, 1) := by decide +kernel
theorem d_L_letter_2 : decode b_L_letter 2 = .ok (.aload_n 0, 1) := by decide +kernel
theorem d_L_letter_3 : decode b_L_letter 3 = .ok (.iload_n 1, 1) := by decide +kernel
theorem d_L_letter_4 : decode b_L_letter 4 = .ok (.invokevirtual 30, 3) := by decide +kernel
theorem d_L_letter_7 : decode b_L_letter 7 = .ok (.i2l, 1) := by decide +kernel
theorem d_L_letter_8 : decode b_L_letter 8 = .ok (.lastore, 1) := by decide +kernel
theorem d_L_letter_9 : decode b_L_letter 9 = .ok (.goto 6, 3) := by decide +kernel
theorem d_L_letter_12 : decode b_L_letter 12 = .ok (.astore_n 3, 1) := by decide +kernel
theorem d_L_letter_13 : decode b_L_letter 13 = .ok (.iconst 1, 1) := by decide +kernel
theorem d_L_letter_14 : decode b_L_letter 14 = .ok (.ireturn, 1) := by decide +kernel
theorem d_L_letter_15 : decode b_L_letter 15 = .ok (.iconst 0, 1) := by decide +kernel
theorem d_L_letter_16 : decode b_L_letter 16 = .ok (.ireturn, 1) := by decide +kernel
theorem d_L_work_0 : decode b_L_work 0 = .ok (.aload 5, 2) := by decide +kernel
theorem d_L_work_2 : decode b_L_work 2 = .ok (.iconst 0, 1) := by decide +kernel
theorem d_L_work_3 : decode b_L_work 3 = .ok (.aload_n 0, 1) := by decide +kernel
theorem d_L_work_4 : decode b_L_work 4 = .ok (.iload_n 1, 1) := by decide +kernel
theorem d_L_work_5 : decode b_L_work 5 = .ok (.iload_n 2, 1) := by decide +kernel
theorem d_L_work_6 : decode b_L_work 6 = .ok (.iload_n 3, 1) := by decide +kernel
theorem d_L_work_7 : decode b_L_work 7 = .ok (.iload 4, 2) := by decide +kernel
theorem d_L_work_9 : decode b_L_work 9 = .ok (.invokevirtual 34, 3) := by decide +kernel
theorem d_L_work_12 : decode b_L_work 12 = .ok (.i2l, 1) := by decide +kernel
theorem d_L_work_13 : decode b_L_work 13 = .ok (.lastore, 1) := by decide +kernel
theorem d_L_work_14 : decode b_L_work 14 = .ok (.goto 11, 3) := by decide +kernel
theorem d_L_work_17 : decode b_L_work 17 = .ok (.astore 6, 2) := by decide +kernel
theorem d_L_work_19 : decode b_L_work 19 = .ok (.iconst 1, 1) := by decide +kernel
theorem d_L_work_20 : decode b_L_work 20 = .ok (.ireturn, 1) := by decide +kernel
theorem d_L_work_21 : decode b_L_work 21 = .ok (.astore 6, 2) := by decide +kernel
theorem d_L_work_23 : decode b_L_work 23 = .ok (.iconst 2, 1) := by decide +kernel
theorem d_L_work_24 : decode b_L_work 24 = .ok (.ireturn, 1) := by decide +kernel
theorem d_L_work_25 : decode b_L_work 25 = .ok (.iconst 0, 1) := by decide +kernel
theorem d_L_work_26 : decode b_L_work 26 = .ok (.ireturn, 1) := by decide +kernel
theorem d_L_divide_0 : decode b_L_divide 0 = .ok (.aload 6, 2) := by decide +kernel
theorem d_L_divide_2 : decode b_L_divide 2 = .ok (.iconst 0, 1) := by decide +kernel
theorem d_L_divide_3 : decode b_L_divide 3 = .ok (.aload_n 0, 1) := by decide +kernel
theorem d_L_divide_4 : decode b_L_divide 4 = .ok (.iload_n 1, 1) := by decide +kernel
theorem d_L_divide_5 : decode b_L_divide 5 = .ok (.iload_n 2, 1) := by decide +kernel
theorem d_L_divide_6 : decode b_L_divide 6 = .ok (.iload_n 3, 1) := by decide +kernel
theorem d_L_divide_7 : decode b_L_divide 7 = .ok (.iload 4, 2) := by decide +kernel
theorem d_L_divide_9 : decode b_L_divide 9 = .ok (.iload 5, 2) := by decide +kernel
theorem d_L_divide_11 : decode b_L_divide 11 = .ok (.invokevirtual 38, 3) := by decide +kernel
theorem d_L_divide_14 : decode b_L_divide 14 = .ok (.i2l, 1) := by decide +kernel
theorem d_L_divide_15 : decode b_L_divide 15 = .ok (.lastore, 1) := by decide +kernel
theorem d_L_divide_16 : decode b_L_divide 16 = .ok (.goto 11, 3) := by decide +kernel
theorem d_L_divide_19 : decode b_L_divide 19 = .ok (.astore 7, 2) := by decide +kernel
theorem d_L_divide_21 : decode b_L_divide 21 = .ok (.iconst 1, 1) := by decide +kernel
theorem d_L_divide_22 : decode b_L_divide 22 = .ok (.ireturn, 1) := by decide +kernel
theorem d_L_divide_23 : decode b_L_divide 23 = .ok (.astore 7, 2) := by decide +kernel
theorem d_L_divide_25 : decode b_L_divide 25 = .ok (.iconst 2, 1) := by decide +kernel
theorem d_L_divide_26 : decode b_L_divide 26 = .ok (.ireturn, 1) := by decide +kernel
theorem d_L_divide_27 : decode b_L_divide 27 = .ok (.iconst 0, 1) := by decide +kernel
theorem d_L_divide_28 : decode b_L_divide 28 = .ok (.ireturn, 1) := by decide +kernel
theorem d_L_shift_0 : decode b_L_shift 0 = .ok (.aload 4, 2) := by decide +kernel
theorem d_L_shift_2 : decode b_L_shift 2 = .ok (.iconst 0, 1) := by decide +kernel
theorem d_L_shift_3 : decode b_L_shift 3 = .ok (.aload_n 0, 1) := by decide +kernel
theorem d_L_shift_4 : decode b_L_shift 4 = .ok (.iload_n 1, 1) := by decide +kernel
theorem d_L_shift_5 : decode b_L_shift 5 = .ok (.iload_n 2, 1) := by decide +kernel
theorem d_L_shift_6 : decode b_L_shift 6 = .ok (.iload_n 3, 1) := by decide +kernel
theorem d_L_shift_7 : decode b_L_shift 7 = .ok (.invokevirtual 42, 3) := by decide +kernel
theorem d_L_shift_10 : decode b_L_shift 10 = .ok (.i2l, 1) := by decide +kernel
theorem d_L_shift_11 : decode b_L_shift 11 = .ok (.lastore, 1) := by decide +kernel
theorem d_L_shift_12 : decode b_L_shift 12 = .ok (.goto 11, 3) := by decide +kernel
theorem d_L_shift_15 : decode b_L_shift 15 = .ok (.astore 5, 2) := by decide +kernel
theorem d_L_shift_17 : decode b_L_shift 17 = .ok (.iconst 1, 1) := by decide +kernel
theorem d_L_shift_18 : decode b_L_shift 18 = .ok (.ireturn, 1) := by decide +kernel
theorem d_L_shift_19 : decode b_L_shift 19 = .ok (.astore 5, 2) := by decide +kernel
theorem d_L_shift_21 : decode b_L_shift 21 = .ok (.iconst 2, 1) := by decide +kernel
theorem d_L_shift_22 : decode b_L_shift 22 = .ok (.ireturn, 1) := by decide +kernel
theorem d_L_shift_23 : decode b_L_shift 23 = .ok (.iconst 0, 1) := by decide +kernel
theorem d_L_shift_24 : decode b_L_shift 24 = .ok (.ireturn, 1) := by decide +kernel
theorem d_L_bits_0 : decode b_L_bits 0 = .ok (.aload 5, 2) := by decide +kernel
theorem d_L_bits_2 : decode b_L_bits 2 = .ok (.iconst 0, 1) := by decide +kernel
theorem d_L_bits_3 : decode b_L_bits 3 = .ok (.aload_n 0, 1) := by decide +kernel
theorem d_L_bits_4 : decode b_L_bits 4 = .ok (.iload_n 1, 1) := by decide +kernel
theorem d_L_bits_5 : decode b_L_bits 5 = .ok (.iload_n 2, 1) := by decide +kernel
