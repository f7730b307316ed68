theorem d_Z_step_358 : decode b_Z_step 358 = .ok (.if_icmp .ge 7, 3) := by decide +kernel
theorem d_Z_step_361 : decode b_Z_step 361 = .ok (.iconst 1, 1) := by decide +kernel
theorem d_Z_step_362 : decode b_Z_step 362 = .ok (.goto 4, 3) := by decide +kernel
theorem d_Z_step_365 : decode b_Z_step 365 = .ok (.iconst 0, 1) := by decide +kernel
theorem d_Z_step_366 : decode b_Z_step 366 = .ok (.istore 12, 2) := by decide +kernel
theorem d_Z_step_368 : decode b_Z_step 368 = .ok (.aload_n 0, 1) := by decide +kernel
theorem d_Z_step_369 : decode b_Z_step 369 = .ok (.iload 12, 2) := by decide +kernel
theorem d_Z_step_371 : decode b_Z_step 371 = .ok (.ifCond .ne 7, 3) := by decide +kernel
theorem d_Z_step_374 : decode b_Z_step 374 = .ok (.iconst 0, 1) := by decide +kernel
theorem d_Z_step_375 : decode b_Z_step 375 = .ok (.goto 72, 3) := by decide +kernel
theorem d_Z_step_378 : decode b_Z_step 378 = .ok (.aload_n 0, 1) := by decide +kernel
theorem d_Z_step_379 : decode b_Z_step 379 = .ok (.getfield 88, 3) := by decide +kernel
theorem d_Z_step_382 : decode b_Z_step 382 = .ok (.iconst 2, 1) := by decide +kernel
theorem d_Z_step_383 : decode b_Z_step 383 = .ok (.if_icmp .ne 21, 3) := by decide +kernel
theorem d_Z_step_386 : decode b_Z_step 386 = .ok (.aload_n 0, 1) := by decide +kernel
theorem d_Z_step_387 : decode b_Z_step 387 = .ok (.iconst 1, 1) := by decide +kernel
theorem d_Z_step_388 : decode b_Z_step 388 = .ok (.aload_n 0, 1) := by decide +kernel
theorem d_Z_step_389 : decode b_Z_step 389 = .ok (.getfield 82, 3) := by decide +kernel
theorem d_Z_step_392 : decode b_Z_step 392 = .ok (.i2l, 1) := by decide +kernel
theorem d_Z_step_393 : decode b_Z_step 393 = .ok (.aload_n 0, 1) := by decide +kernel
theorem d_Z_step_394 : decode b_Z_step 394 = .ok (.getfield 56, 3) := by decide +kernel
theorem d_Z_step_397 : decode b_Z_step 397 = .ok (.i2l, 1) := by decide +kernel
theorem d_Z_step_398 : decode b_Z_step 398 = .ok (.invokevirtual 91, 3) := by decide +kernel
theorem d_Z_step_401 : decode b_Z_step 401 = .ok (.goto 46, 3) := by decide +kernel
theorem d_Z_step_404 : decode b_Z_step 404 = .ok (.aload_n 0, 1) := by decide +kernel
theorem d_Z_step_405 : decode b_Z_step 405 = .ok (.getfield 88, 3) := by decide +kernel
theorem d_Z_step_408 : decode b_Z_step 408 = .ok (.iconst 1, 1) := by decide +kernel
theorem d_Z_step_409 : decode b_Z_step 409 = .ok (.if_icmp .ne 23, 3) := by decide +kernel
theorem d_Z_step_412 : decode b_Z_step 412 = .ok (.aload_n 0, 1) := by decide +kernel
theorem d_Z_step_413 : decode b_Z_step 413 = .ok (.iconst 0, 1) := by decide +kernel
theorem d_Z_step_414 : decode b_Z_step 414 = .ok (.aload_n 0, 1) := by decide +kernel
theorem d_Z_step_415 : decode b_Z_step 415 = .ok (.getfield 82, 3) := by decide +kernel
theorem d_Z_step_418 : decode b_Z_step 418 = .ok (.i2l, 1) := by decide +kernel
theorem d_Z_step_419 : decode b_Z_step 419 = .ok (.aload_n 0, 1) := by decide +kernel
theorem d_Z_step_420 : decode b_Z_step 420 = .ok (.getfield 56, 3) := by decide +kernel
theorem d_Z_step_423 : decode b_Z_step 423 = .ok (.i2l, 1) := by decide +kernel
theorem d_Z_step_424 : decode b_Z_step 424 = .ok (.invokevirtual 91, 3) := by decide +kernel
theorem d_Z_step_427 : decode b_Z_step 427 = .ok (.iconst 2, 1) := by decide +kernel
theorem d_Z_step_428 : decode b_Z_step 428 = .ok (.idiv, 1) := by decide +kernel
theorem d_Z_step_429 : decode b_Z_step 429 = .ok (.goto 18, 3) := by decide +kernel
theorem d_Z_step_432 : decode b_Z_step 432 = .ok (.aload_n 0, 1) := by decide +kernel
theorem d_Z_step_433 : decode b_Z_step 433 = .ok (.iconst 0, 1) := by decide +kernel
theorem d_Z_step_434 : decode b_Z_step 434 = .ok (.aload_n 0, 1) := by decide +kernel
theorem d_Z_step_435 : decode b_Z_step 435 = .ok (.getfield 82, 3) := by decide +kernel
theorem d_Z_step_438 : decode b_Z_step 438 = .ok (.i2l, 1) := by decide +kernel
theorem d_Z_step_439 : decode b_Z_step 439 = .ok (.aload_n 0, 1) := by decide +kernel
theorem d_Z_step_440 : decode b_Z_step 440 = .ok (.getfield 56, 3) := by decide +kernel
theorem d_Z_step_443 : decode b_Z_step 443 = .ok (.i2l, 1) := by decide +kernel
theorem d_Z_step_444 : decode b_Z_step 444 = .ok (.invokevirtual 91, 3) := by decide +kernel
theorem d_Z_step_447 : decode b_Z_step 447 = .ok (.putfield 53, 3) := by decide +kernel
theorem d_Z_step_450 : decode b_Z_step 450 = .ok (.iload 12, 2) := by decide +kernel
theorem d_Z_step_452 : decode b_Z_step 452 = .ok (.ifCond .eq 7, 3) := by decide +kernel
theorem d_Z_step_455 : decode b_Z_step 455 = .ok (.aload_n 0, 1) := by decide +kernel
theorem d_Z_step_456 : decode b_Z_step 456 = .ok (.invokevirtual 95, 3) := by decide +kernel
theorem d_Z_step_459 : decode b_Z_step 459 = .ok (.aload_n 0, 1) := by decide +kernel
theorem d_Z_step_460 : decode b_Z_step 460 = .ok (.iconst 0, 1) := by decide +kernel
theorem d_Z_step_461 : decode b_Z_step 461 = .ok (.putfield 50, 3) := by decide +kernel
theorem d_Z_step_464 : decode b_Z_step 464 = .ok (.aload_n 0, 1) := by decide +kernel
theorem d_Z_step_465 : decode b_Z_step 465 = .ok (.getfield 82, 3) := by decide +kernel
theorem d_Z_step_468 : decode b_Z_step 468 = .ok (.ifCond .ne 15, 3) := by decide +kernel
theorem d_Z_step_471 : decode b_Z_step 471 = .ok (.iload 12, 2) := by decide +kernel
theorem d_Z_step_473 : decode b_Z_step 473 = .ok (.ifCond .eq 10, 3) := by decide +kernel
theorem d_Z_step_476 : decode b_Z_step 476 = .ok (.aload_n 0, 1) := by decide +kernel
theorem d_Z_step_477 : decode b_Z_step 477 = .ok (.invokevirtual 98, 3) := by decide +kernel
theorem d_Z_step_480 : decode b_Z_step 480 = .ok (.goto 8, 3) := by decide +kernel
theorem d_Z_step_483 : decode b_Z_step 483 = .ok (.aload_n 0, 1) := by decide +kernel
theorem d_Z_step_484 : decode b_Z_step 484 = .ok (.lconst 0, 1) := by decide +kernel
theorem d_Z_step_485 : decode b_Z_step 485 = .ok (.putfield 61, 3) := by decide +kernel
theorem d_Z_step_488 : decode b_Z_step 488 = .ok (.aload_n 0, 1) := by decide +kernel
theorem d_Z_step_489 : decode b_Z_step 489 = .ok (.aload_n 0, 1) := by decide +kernel
theorem d_Z_step_490 : decode b_Z_step 490 = .ok (.getfield 53, 3) := by decide +kernel
theorem d_Z_step_493 : decode b_Z_step 493 = .ok (.aload_n 0, 1) := by decide +kernel
theorem d_Z_step_494 : decode b_Z_step 494 = .ok (.getfield 27, 3) := by decide +kernel
theorem d_Z_step_497 : decode b_Z_step 497 = .ok (.if_icmp .le 10, 3) := by decide +kernel
theorem d_Z_step_500 : decode b_Z_step 500 = .ok (.aload_n 0, 1) := by decide +kernel
theorem d_Z_step_501 : decode b_Z_step 501 = .ok (.getfield 27, 3) := by decide +kernel
theorem d_Z_step_504 : decode b_Z_step 504 = .ok (.goto 7, 3) := by decide +kernel
theorem d_Z_step_507 : decode b_Z_step 507 = .ok (.aload_n 0, 1) := by decide +kernel
theorem d_Z_step_508 : decode b_Z_step 508 = .ok (.getfield 53, 3) := by decide +kernel
theorem d_Z_step_511 : decode b_Z_step 511 = .ok (.putfield 53, 3) := by decide +kernel
theorem d_Z_step_514 : decode b_Z_step 514 = .ok (.aload_n 0, 1) := by decide +kernel
theorem d_Z_step_515 : decode b_Z_step 515 = .ok (.aload_n 0, 1) := by decide +kernel
theorem d_Z_step_516 : decode b_Z_step 516 = .ok (.getfield 101, 3) := by decide +kernel
theorem d_Z_step_519 : decode b_Z_step 519 = .ok (.putfield 104, 3) := by decide +kernel
theorem d_Z_step_522 : decode b_Z_step 522 = .ok (.aload_n 0, 1) := by decide +kernel
theorem d_Z_step_523 : decode b_Z_step 523 = .ok (.getfield 101, 3) := by decide +kernel
theorem d_Z_step_526 : decode b_Z_step 526 = .ok (.bipush 80, 2) := by decide +kernel
theorem d_Z_step_528 : decode b_Z_step 528 = .ok (.isub, 1) := by decide +kernel
theorem d_Z_step_529 : decode b_Z_step 529 = .ok (.istore 13, 2) := by decide +kernel
theorem d_Z_step_531 : decode b_Z_step 531 = .ok (.aload_n 0, 1) := by decide +kernel
theorem d_Z_step_532 : decode b_Z_step 532 = .ok (.getfield 101, 3) := by decide +kernel
theorem d_Z_step_535 : decode b_Z_step 535 = .ok (.bipush 40, 2) := by decide +kernel
theorem d_Z_step_537 : decode b_Z_step 537 = .ok (.iadd, 1) := by decide +kernel
theorem d_Z_step_538 : decode b_Z_step 538 = .ok (.istore 14, 2) := by decide +kernel
theorem d_Z_step_540 : decode b_Z_step 540 = .ok (.aload_n 0, 1) := by decide +kernel
theorem d_Z_step_541 : decode b_Z_step 541 = .ok (.iload 12, 2) := by decide +kernel
theorem d_Z_step_543 : decode b_Z_step 543 = .ok (.ifCond .ne 7, 3) := by decide +kernel
theorem d_Z_step_546 : decode b_Z_step 546 = .ok (.iconst 0, 1) := by decide +kernel
theorem d_Z_step_547 : decode b_Z_step 547 = .ok (.goto 35, 3) := by decide +kernel
theorem d_Z_step_550 : decode b_Z_step 550 = .ok (.aload_n 0, 1) := by decide +kernel
theorem d_Z_step_551 : decode b_Z_step 551 = .ok (.getfield 53, 3) := by decide +kernel
theorem d_Z_step_554 : decode b_Z_step 554 = .ok (.iload 13, 2) := by decide +kernel
theorem d_Z_step_556 : decode b_Z_step 556 = .ok (.if_icmp .ge 8, 3) := by decide +kernel
theorem d_Z_step_559 : decode b_Z_step 559 = .ok (.iload 13, 2) := by decide +kernel
theorem d_Z_step_561 : decode b_Z_step 561 = .ok (.goto 21, 3) := by decide +kernel
theorem d_Z_step_564 : decode b_Z_step 564 = .ok (.aload_n 0, 1) := by decide +kernel
theorem d_Z_step_565 : decode b_Z_step 565 = .ok (.getfield 53, 3) := by decide +kernel
theorem d_Z_step_568 : decode b_Z_step 568 = .ok (.iload 14, 2) := by decide +kernel
theorem d_Z_step_570 : decode b_Z_step 570 = .ok (.if_icmp .le 8, 3) := by decide +kernel
theorem d_Z_step_573 : decode b_Z_step 573 = .ok (.iload 14, 2) := by decide +kernel
theorem d_Z_step_575 : decode b_Z_step 575 = .ok (.goto 7, 3) := by decide +kernel
theorem d_Z_step_578 : decode b_Z_step 578 = .ok (.aload_n 0, 1) := by decide +kernel
theorem d_Z_step_579 : decode b_Z_step 579 = .ok (.getfield 53, 3) := by decide +kernel
theorem d_Z_step_582 : decode b_Z_step 582 = .ok (.putfield 101, 3) := by decide +kernel
theorem d_Z_step_585 : decode b_Z_step 585 = .ok (.aload_n 0, 1) := by decide +kernel
theorem d_Z_step_586 : decode b_Z_step 586 = .ok (.aload_n 0, 1) := by decide +kernel
theorem d_Z_step_587 : decode b_Z_step 587 = .ok (.iconst 2, 1) := by decide +kernel
theorem d_Z_step_588 : decode b_Z_step 588 = .ok (.aload_n 0, 1) := by decide +kernel
theorem d_Z_step_589 : decode b_Z_step 589 = .ok (.getfield 101, 3) := by decide +kernel
theorem d_Z_step_592 : decode b_Z_step 592 = .ok (.i2l, 1) := by decide +kernel
theorem d_Z_step_593 : decode b_Z_step 593 = .ok (.aload_n 0, 1) := by decide +kernel
theorem d_Z_step_594 : decode b_Z_step 594 = .ok (.getfield 56, 3) := by decide +kernel
theorem d_Z_step_597 : decode b_Z_step 597 = .ok (.i2l, 1) := by decide +kernel
theorem d_Z_step_598 : decode b_Z_step 598 = .ok (.invokevirtual 91, 3) := by decide +kernel
theorem d_Z_step_601 : decode b_Z_step 601 = .ok (.putfield 107, 3) := by decide +kernel
theorem d_Z_step_604 : decode b_Z_step 604 = .ok (.aload_n 0, 1) := by decide +kernel
theorem d_Z_step_605 : decode b_Z_step 605 = .ok (.iload 12, 2) := by decide +kernel
theorem d_Z_step_607 : decode b_Z_step 607 = .ok (.ifCond .eq 27, 3) := by decide +kernel
theorem d_Z_step_610 : decode b_Z_step 610 = .ok (.aload_n 0, 1) := by decide +kernel
theorem d_Z_step_611 : decode b_Z_step 611 = .ok (.getfield 82, 3) := by decide +kernel
theorem d_Z_step_614 : decode b_Z_step 614 = .ok (.ifCond .ne 24, 3) := by decide +kernel
theorem d_Z_step_617 : decode b_Z_step 617 = .ok (.aload_n 0, 1) := by decide +kernel
theorem d_Z_step_618 : decode b_Z_step 618 = .ok (.getfield 101, 3) := by decide +kernel
theorem d_Z_step_621 : decode b_Z_step 621 = .ok (.ifCond .ne 17, 3) := by decide +kernel
theorem d_Z_step_624 : decode b_Z_step 624 = .ok (.aload_n 0, 1) := by decide +kernel
theorem d_Z_step_625 : decode b_Z_step 625 = .ok (.getfield 56, 3) := by decide +kernel
theorem d_Z_step_628 : decode b_Z_step 628 = .ok (.sipush 1500, 3) := by decide +kernel
theorem d_Z_step_631 : decode b_Z_step 631 = .ok (.if_icmp .le 7, 3) := by decide +kernel
theorem d_Z_step_634 : decode b_Z_step 634 = .ok (.iconst 0, 1) := by decide +kernel
theorem d_Z_step_635 : decode b_Z_step 635 = .ok (.goto 18, 3) := by decide +kernel
theorem d_Z_step_638 : decode b_Z_step 638 = .ok (.aload_n 0, 1) := by decide +kernel
theorem d_Z_step_639 : decode b_Z_step 639 = .ok (.iconst 3, 1) := by decide +kernel
theorem d_Z_step_640 : decode b_Z_step 640 = .ok (.aload_n 0, 1) := by decide +kernel
theorem d_Z_step_641 : decode b_Z_step 641 = .ok (.getfield 107, 3) := by decide +kernel
theorem d_Z_step_644 : decode b_Z_step 644 = .ok (.i2l, 1) := by decide +kernel
theorem d_Z_step_645 : decode b_Z_step 645 = .ok (.aload_n 0, 1) := by decide +kernel
theorem d_Z_step_646 : decode b_Z_step 646 = .ok (.getfield 56, 3) := by decide +kernel
theorem d_Z_step_649 : decode b_Z_step 649 = .ok (.i2l, 1) := by decide +kernel
theorem d_Z_step_650 : decode b_Z_step 650 = .ok (.invokevirtual 91, 3) := by decide +kernel
theorem d_Z_step_653 : decode b_Z_step 653 = .ok (.putfield 110, 3) := by decide +kernel
theorem d_Z_step_656 : decode b_Z_step 656 = .ok (.aload_n 0, 1) := by decide +kernel
theorem d_Z_step_657 : decode b_Z_step 657 = .ok (.dup, 1) := by decide +kernel
theorem d_Z_step_658 : decode b_Z_step 658 = .ok (.getfield 113, 3) := by decide +kernel
theorem d_Z_step_661 : decode b_Z_step 661 = .ok (.lconst 1, 1) := by decide +kernel
theorem d_Z_step_662 : decode b_Z_step 662 = .ok (.ladd, 1) := by decide +kernel
theorem d_Z_step_663 : decode b_Z_step 663 = .ok (.putfield 113, 3) := by decide +kernel
theorem d_Z_step_666 : decode b_Z_step 666 = .ok (.aload_n 0, 1) := by decide +kernel
theorem d_Z_step_667 : decode b_Z_step 667 = .ok (.dup, 1) := by decide +kernel
theorem d_Z_step_668 : decode b_Z_step 668 = .ok (.getfield 116, 3) := by decide +kernel
theorem d_Z_step_671 : decode b_Z_step 671 = .ok (.aload_n 0, 1) := by decide +kernel
theorem d_Z_step_672 : decode b_Z_step 672 = .ok (.getfield 101, 3) := by decide +kernel
theorem d_Z_step_675 : decode b_Z_step 675 = .ok (.i2l, 1) := by decide +kernel
theorem d_Z_step_676 : decode b_Z_step 676 = .ok (.aload_n 0, 1) := by decide +kernel
theorem d_Z_step_677 : decode b_Z_step 677 = .ok (.getfield 56, 3) := by decide +kernel
theorem d_Z_step_680 : decode b_Z_step 680 = .ok (.i2l, 1) := by decide +kernel
theorem d_Z_step_681 : decode b_Z_step 681 = .ok (.lmul, 1) := by decide +kernel
theorem d_Z_step_682 : decode b_Z_step 682 = .ok (.ladd, 1) := by decide +kernel
theorem d_Z_step_683 : decode b_Z_step 683 = .ok (.putfield 116, 3) := by decide +kernel
theorem d_Z_step_686 : decode b_Z_step 686 = .ok (.aload_n 0, 1) := by decide +kernel
theorem d_Z_step_687 : decode b_Z_step 687 = .ok (.dup, 1) := by decide +kernel
theorem d_Z_step_688 : decode b_Z_step 688 = .ok (.getfield 119, 3) := by decide +kernel
theorem d_Z_step_691 : decode b_Z_step 691 = .ok (.aload_n 0, 1) := by decide +kernel
theorem d_Z_step_692 : decode b_Z_step 692 = .ok (.getfield 110, 3) := by decide +kernel
theorem d_Z_step_695 : decode b_Z_step 695 = .ok (.i2l, 1) := by decide +kernel
theorem d_Z_step_696 : decode b_Z_step 696 = .ok (.ladd, 1) := by decide +kernel
theorem d_Z_step_697 : decode b_Z_step 697 = .ok (.putfield 119, 3) := by decide +kernel
theorem d_Z_step_700 : decode b_Z_step 700 = .ok (.aload_n 0, 1) := by decide +kernel
theorem d_Z_step_701 : decode b_Z_step 701 = .ok (.dup, 1) := by decide +kernel
theorem d_Z_step_702 : decode b_Z_step 702 = .ok (.getfield 122, 3) := by decide +kernel
theorem d_Z_step_705 : decode b_Z_step 705 = .ok (.aload_n 0, 1) := by decide +kernel
theorem d_Z_step_706 : decode b_Z_step 706 = .ok (.getfield 88, 3) := by decide +kernel
theorem d_Z_step_709 : decode b_Z_step 709 = .ok (.iconst 4, 1) := by decide +kernel
theorem d_Z_step_710 : decode b_Z_step 710 = .ok (.if_icmp .ne 7, 3) := by decide +kernel
theorem d_Z_step_713 : decode b_Z_step 713 = .ok (.lconst 1, 1) := by decide +kernel
theorem d_Z_step_714 : decode b_Z_step 714 = .ok (.goto 4, 3) := by decide +kernel
theorem d_Z_step_717 : decode b_Z_step 717 = .ok (.lconst 0, 1) := by decide +kernel
theorem d_Z_step_718 : decode b_Z_step 718 = .ok (.ladd, 1) := by decide +kernel
theorem d_Z_step_719 : decode b_Z_step 719 = .ok (.putfield 122, 3) := by decide +kernel
theorem d_Z_step_722 : decode b_Z_step 722 = .ok (.aload_n 0, 1) := by decide +kernel
theorem d_Z_step_723 : decode b_Z_step 723 = .ok (.getfield 88, 3) := by decide +kernel
theorem d_Z_step_726 : decode b_Z_step 726 = .ok (.ireturn, 1) := by decide +kernel
theorem d_Z_torque_0 : decode b_Z_torque 0 = .ok (.aload_n 0, 1) := by decide +kernel
theorem d_Z_torque_1 : decode b_Z_torque 1 = .ok (.iconst 0, 1) := by decide +kernel
theorem d_Z_torque_2 : decode b_Z_torque 2 = .ok (.putfield 33, 3) := by decide +kernel
theorem d_Z_torque_5 : decode b_Z_torque 5 = .ok (.aload_n 0, 1) := by decide +kernel
theorem d_Z_torque_6 : decode b_Z_torque 6 = .ok (.getfield 101, 3) := by decide +kernel
theorem d_Z_torque_9 : decode b_Z_torque 9 = .ok (.i2l, 1) := by decide +kernel
theorem d_Z_torque_10 : decode b_Z_torque 10 = .ok (.lreturn, 1) := by decide +kernel
theorem d_Z_value_0 : decode b_Z_value 0 = .ok (.aload_n 0, 1) := by decide +kernel
theorem d_Z_value_1 : decode b_Z_value 1 = .ok (.iconst 0, 1) := by decide +kernel
theorem d_Z_value_2 : decode b_Z_value 2 = .ok (.putfield 33, 3) := by decide +kernel
theorem d_Z_value_5 : decode b_Z_value 5 = .ok (.iload_n 1, 1) := by decide +kernel
theorem d_Z_value_6 : decode b_Z_value 6 = .ok (.tableswitch 93 0 7 #[46, 52, 58, 64, 70, 75, 81, 87], 46) := by decide +kernel
theorem d_Z_value_52 : decode b_Z_value 52 = .ok (.aload_n 0, 1) := by decide +kernel
theorem d_Z_value_53 : decode b_Z_value 53 = .ok (.getfield 82, 3) := by decide +kernel
theorem d_Z_value_56 : decode b_Z_value 56 = .ok (.i2l, 1) := by decide +kernel
theorem d_Z_value_57 : decode b_Z_value 57 = .ok (.lreturn, 1) := by decide +kernel
theorem d_Z_value_58 : decode b_Z_value 58 = .ok (.aload_n 0, 1) := by decide +kernel
theorem d_Z_value_59 : decode b_Z_value 59 = .ok (.getfield 53, 3) := by decide +kernel
theorem d_Z_value_62 : decode b_Z_value 62 = .ok (.i2l, 1) := by decide +kernel
theorem d_Z_value_63 : decode b_Z_value 63 = .ok (.lreturn, 1) := by decide +kernel
theorem d_Z_value_64 : decode b_Z_value 64 = .ok (.aload_n 0, 1) := by decide +kernel
theorem d_Z_value_65 : decode b_Z_value 65 = .ok (.getfield 107, 3) := by decide +kernel
theorem d_Z_value_68 : decode b_Z_value 68 = .ok (.i2l, 1) := by decide +kernel
theorem d_Z_value_69 : decode b_Z_value 69 = .ok (.lreturn, 1) := by decide +kernel
theorem d_Z_value_70 : decode b_Z_value 70 = .ok (.aload_n 0, 1) := by decide +kernel
theorem d_Z_value_71 : decode b_Z_value 71 = .ok (.getfield 110, 3) := by decide +kernel
theorem d_Z_value_74 : decode b_Z_value 74 = .ok (.i2l, 1) := by decide +kernel
theorem d_Z_value_75 : decode b_Z_value 75 = .ok (.lreturn, 1) := by decide +kernel
theorem d_Z_value_76 : decode b_Z_value 76 = .ok (.aload_n 0, 1) := by decide +kernel
theorem d_Z_value_77 : decode b_Z_value 77 = .ok (.getfield 61, 3) := by decide +kernel
theorem d_Z_value_80 : decode b_Z_value 80 = .ok (.lreturn, 1) := by decide +kernel
theorem d_Z_value_81 : decode b_Z_value 81 = .ok (.aload_n 0, 1) := by decide +kernel
theorem d_Z_value_82 : decode b_Z_value 82 = .ok (.getfield 75, 3) := by decide +kernel
theorem d_Z_value_85 : decode b_Z_value 85 = .ok (.i2l, 1) := by decide +kernel
theorem d_Z_value_86 : decode b_Z_value 86 = .ok (.lreturn, 1) := by decide +kernel
theorem d_Z_value_87 : decode b_Z_value 87 = .ok (.aload_n 0, 1) := by decide +kernel
theorem d_Z_value_88 : decode b_Z_value 88 = .ok (.getfield 88, 3) := by decide +kernel
theorem d_Z_value_91 : decode b_Z_value 91 = .ok (.i2l, 1) := by decide +kernel
theorem d_Z_value_92 : decode b_Z_value 92 = .ok (.lreturn, 1) := by decide +kernel
theorem d_Z_value_93 : decode b_Z_value 93 = .ok (.aload_n 0, 1) := by decide +kernel
theorem d_Z_value_94 : decode b_Z_value 94 = .ok (.getfield 56, 3) := by decide +kernel
theorem d_Z_value_97 : decode b_Z_value 97 = .ok (.i2l, 1) := by decide +kernel
theorem d_Z_value_98 : decode b_Z_value 98 = .ok (.lreturn, 1) := by decide +kernel
theorem d_Z_value_99 : decode b_Z_value 99 = .ok (.ldc2_w 125, 3) := by decide +kernel
theorem d_Z_value_102 : decode b_Z_value 102 = .ok (.lreturn, 1) := by decide +kernel
theorem d_Z_wish_0 : decode b_Z_wish 0 = .ok (.aload_n 0, 1) := by decide +kernel
theorem d_Z_wish_1 : decode b_Z_wish 1 = .ok (.iconst 0, 1) := by decide +kernel
theorem d_Z_wish_2 : decode b_Z_wish 2 = .ok (.putfield 33, 3) := by decide +kernel
theorem d_Z_wish_5 : decode b_Z_wish 5 = .ok (.iload_n 1, 1) := by decide +kernel
theorem d_Z_wish_6 : decode b_Z_wish 6 = .ok (.iconst 1, 1) := by decide +kernel
theorem d_Z_wish_7 : decode b_Z_wish 7 = .ok (.if_icmp .lt 8, 3) := by decide +kernel
theorem d_Z_wish_10 : decode b_Z_wish 10 = .ok (.iload_n 1, 1) := by decide +kernel
theorem d_Z_wish_11 : decode b_Z_wish 11 = .ok (.iconst 5, 1) := by decide +kernel
theorem d_Z_wish_12 : decode b_Z_wish 12 = .ok (.if_icmp .le 5, 3) := by decide +kernel
theorem d_Z_wish_15 : decode b_Z_wish 15 = .ok (.iconst (-1), 1) := by decide +kernel
theorem d_Z_wish_16 : decode b_Z_wish 16 = .ok (.ireturn, 1) := by decide +kernel
theorem d_Z_wish_17 : decode b_Z_wish 17 = .ok (.lload_n 2, 1) := by decide +kernel
theorem d_Z_wish_18 : decode b_Z_wish 18 = .ok (.lconst 0, 1) := by decide +kernel
theorem d_Z_wish_19 : decode b_Z_wish 19 = .ok (.lcmp, 1) := by decide +kernel
theorem d_Z_wish_20 : decode b_Z_wish 20 = .ok (.ifCond .lt 11, 3) := by decide +kernel
theorem d_Z_wish_23 : decode b_Z_wish 23 = .ok (.lload_n 2, 1) := by decide +kernel
theorem d_Z_wish_24 : decode b_Z_wish 24 = .ok (.ldc2_w 46, 3) := by decide +kernel
theorem d_Z_wish_27 : decode b_Z_wish 27 = .ok (.lcmp, 1) := by decide +kernel
theorem d_Z_wish_28 : decode b_Z_wish 28 = .ok (.ifCond .le 6, 3) := by decide +kernel
theorem d_Z_wish_31 : decode b_Z_wish 31 = .ok (.bipush (-2), 2) := by decide +kernel
theorem d_Z_wish_33 : decode b_Z_wish 33 = .ok (.ireturn, 1) := by decide +kernel
theorem d_Z_wish_34 : decode b_Z_wish 34 = .ok (.aload_n 0, 1) := by decide +kernel
theorem d_Z_wish_35 : decode b_Z_wish 35 = .ok (.getfield 50, 3) := by decide +kernel
theorem d_Z_wish_38 : decode b_Z_wish 38 = .ok (.bipush 16, 2) := by decide +kernel
theorem d_Z_wish_40 : decode b_Z_wish 40 = .ok (.if_icmp .ne 6, 3) := by decide +kernel
theorem d_Z_wish_43 : decode b_Z_wish 43 = .ok (.bipush (-4), 2) := by decide +kernel
theorem d_Z_wish_45 : decode b_Z_wish 45 = .ok (.ireturn, 1) := by decide +kernel
theorem d_Z_wish_46 : decode b_Z_wish 46 = .ok (.aload_n 0, 1) := by decide +kernel
theorem d_Z_wish_47 : decode b_Z_wish 47 = .ok (.getfield 17, 3) := by decide +kernel
theorem d_Z_wish_50 : decode b_Z_wish 50 = .ok (.aload_n 0, 1) := by decide +kernel
theorem d_Z_wish_51 : decode b_Z_wish 51 = .ok (.getfield 50, 3) := by decide +kernel
theorem d_Z_wish_54 : decode b_Z_wish 54 = .ok (.iload_n 1, 1) := by decide +kernel
theorem d_Z_wish_55 : decode b_Z_wish 55 = .ok (.iastore, 1) := by decide +kernel
theorem d_Z_wish_56 : decode b_Z_wish 56 = .ok (.aload_n 0, 1) := by decide +kernel
theorem d_Z_wish_57 : decode b_Z_wish 57 = .ok (.getfield 20, 3) := by decide +kernel
theorem d_Z_wish_60 : decode b_Z_wish 60 = .ok (.aload_n 0, 1) := by decide +kernel
theorem d_Z_wish_61 : decode b_Z_wish 61 = .ok (.getfield 50, 3) := by decide +kernel
theorem d_Z_wish_64 : decode b_Z_wish 64 = .ok (.lload_n 2, 1) := by decide +kernel
theorem d_Z_wish_65 : decode b_Z_wish 65 = .ok (.l2i, 1) := by decide +kernel
theorem d_Z_wish_66 : decode b_Z_wish 66 = .ok (.iastore, 1) := by decide +kernel
theorem d_Z_wish_67 : decode b_Z_wish 67 = .ok (.aload_n 0, 1) := by decide +kernel
theorem d_Z_wish_68 : decode b_Z_wish 68 = .ok (.dup, 1) := by decide +kernel
theorem d_Z_wish_69 : decode b_Z_wish 69 = .ok (.getfield 50, 3) := by decide +kernel
theorem d_Z_wish_72 : decode b_Z_wish 72 = .ok (.iconst 1, 1) := by decide +kernel
theorem d_Z_wish_73 : decode b_Z_wish 73 = .ok (.iadd, 1) := by decide +kernel
theorem d_Z_wish_74 : decode b_Z_wish 74 = .ok (.putfield 50, 3) := by decide +kernel
theorem d_Z_wish_77 : decode b_Z_wish 77 = .ok (.aload_n 0, 1) := by decide +kernel
theorem d_Z_wish_78 : decode b_Z_wish 78 = .ok (.getfield 50, 3) := by decide +kernel
theorem d_Z_wish_81 : decode b_Z_wish 81 = .ok (.ireturn, 1) := by decide +kernel
theorem d_Z_bound_0 : decode b_Z_bound 0 = .ok (.aload_n 0, 1) := by decide +kernel
theorem d_Z_bound_1 : decode b_Z_bound 1 = .ok (.iconst 0, 1) := by decide +kernel
theorem d_Z_bound_2 : decode b_Z_bound 2 = .ok (.putfield 33, 3) := by decide +kernel
theorem d_Z_bound_5 : decode b_Z_bound 5 = .ok (.lload_n 1, 1) := by decide +kernel
theorem d_Z_bound_6 : decode b_Z_bound 6 = .ok (.lconst 0, 1) := by decide +kernel
theorem d_Z_bound_7 : decode b_Z_bound 7 = .ok (.lcmp, 1) := by decide +kernel
theorem d_Z_bound_8 : decode b_Z_bound 8 = .ok (.ifCond .lt 11, 3) := by decide +kernel
theorem d_Z_bound_11 : decode b_Z_bound 11 = .ok (.lload_n 1, 1) := by decide +kernel
theorem d_Z_bound_12 : decode b_Z_bound 12 = .ok (.ldc2_w 46, 3) := by decide +kernel
theorem d_Z_bound_15 : decode b_Z_bound 15 = .ok (.lcmp, 1) := by decide +kernel
theorem d_Z_bound_16 : decode b_Z_bound 16 = .ok (.ifCond .le 6, 3) := by decide +kernel
theorem d_Z_bound_19 : decode b_Z_bound 19 = .ok (.bipush (-2), 2) := by decide +kernel
theorem d_Z_bound_21 : decode b_Z_bound 21 = .ok (.ireturn, 1) := by decide +kernel
theorem d_Z_bound_22 : decode b_Z_bound 22 = .ok (.aload_n 0, 1) := by decide +kernel
theorem d_Z_bound_23 : decode b_Z_bound 23 = .ok (.getfield 27, 3) := by decide +kernel
theorem d_Z_bound_26 : decode b_Z_bound 26 = .ok (.istore_n 3, 1) := by decide +kernel
theorem d_Z_bound_27 : decode b_Z_bound 27 = .ok (.aload_n 0, 1) := by decide +kernel
theorem d_Z_bound_28 : decode b_Z_bound 28 = .ok (.lload_n 1, 1) := by decide +kernel
theorem d_Z_bound_29 : decode b_Z_bound 29 = .ok (.l2i, 1) := by decide +kernel
theorem d_Z_bound_30 : decode b_Z_bound 30 = .ok (.putfield 27, 3) := by decide +kernel
theorem d_Z_bound_33 : decode b_Z_bound 33 = .ok (.iload_n 3, 1) := by decide +kernel
theorem d_Z_bound_34 : decode b_Z_bound 34 = .ok (.ireturn, 1) := by decide +kernel
theorem d_Z_monitor_0 : decode b_Z_monitor 0 = .ok (.aload_n 0, 1) := by decide +kernel
theorem d_Z_monitor_1 : decode b_Z_monitor 1 = .ok (.iconst 0, 1) := by decide +kernel
theorem d_Z_monitor_2 : decode b_Z_monitor 2 = .ok (.putfield 33, 3) := by decide +kernel
theorem d_Z_monitor_5 : decode b_Z_monitor 5 = .ok (.aload_n 0, 1) := by decide +kernel
theorem d_Z_monitor_6 : decode b_Z_monitor 6 = .ok (.getfield 78, 3) := by decide +kernel
theorem d_Z_monitor_9 : decode b_Z_monitor 9 = .ok (.ifCond .eq 6, 3) := by decide +kernel
theorem d_Z_monitor_12 : decode b_Z_monitor 12 = .ok (.bipush (-3), 2) := by decide +kernel
theorem d_Z_monitor_14 : decode b_Z_monitor 14 = .ok (.ireturn, 1) := by decide +kernel
theorem d_Z_monitor_15 : decode b_Z_monitor 15 = .ok (.aload_n 0, 1) := by decide +kernel
theorem d_Z_monitor_16 : decode b_Z_monitor 16 = .ok (.lload_n 1, 1) := by decide +kernel
theorem d_Z_monitor_17 : decode b_Z_monitor 17 = .ok (.aload_n 0, 1) := by decide +kernel
theorem d_Z_monitor_18 : decode b_Z_monitor 18 = .ok (.getfield 53, 3) := by decide +kernel
theorem d_Z_monitor_21 : decode b_Z_monitor 21 = .ok (.bipush 30, 2) := by decide +kernel
theorem d_Z_monitor_23 : decode b_Z_monitor 23 = .ok (.iadd, 1) := by decide +kernel
theorem d_Z_monitor_24 : decode b_Z_monitor 24 = .ok (.i2l, 1) := by decide +kernel
theorem d_Z_monitor_25 : decode b_Z_monitor 25 = .ok (.lcmp, 1) := by decide +kernel
theorem d_Z_monitor_26 : decode b_Z_monitor 26 = .ok (.ifCond .le 22, 3) := by decide +kernel
theorem d_Z_monitor_29 : decode b_Z_monitor 29 = .ok (.lload_n 1, 1) := by decide +kernel
theorem d_Z_monitor_30 : decode b_Z_monitor 30 = .ok (.aload_n 0, 1) := by decide +kernel
theorem d_Z_monitor_31 : decode b_Z_monitor 31 = .ok (.getfield 104, 3) := by decide +kernel
theorem d_Z_monitor_34 : decode b_Z_monitor 34 = .ok (.i2l, 1) := by decide +kernel
theorem d_Z_monitor_35 : decode b_Z_monitor 35 = .ok (.lcmp, 1) := by decide +kernel
theorem d_Z_monitor_36 : decode b_Z_monitor 36 = .ok (.ifCond .le 12, 3) := by decide +kernel
theorem d_Z_monitor_39 : decode b_Z_monitor 39 = .ok (.aload_n 0, 1) := by decide +kernel
theorem d_Z_monitor_40 : decode b_Z_monitor 40 = .ok (.getfield 127, 3) := by decide +kernel
theorem d_Z_monitor_43 : decode b_Z_monitor 43 = .ok (.iconst 1, 1) := by decide +kernel
theorem d_Z_monitor_44 : decode b_Z_monitor 44 = .ok (.iadd, 1) := by decide +kernel
theorem d_Z_monitor_45 : decode b_Z_monitor 45 = .ok (.goto 4, 3) := by decide +kernel
theorem d_Z_monitor_48 : decode b_Z_monitor 48 = .ok (.iconst 0, 1) := by decide +kernel
theorem d_Z_monitor_49 : decode b_Z_monitor 49 = .ok (.putfield 127, 3) := by decide +kernel
theorem d_Z_monitor_52 : decode b_Z_monitor 52 = .ok (.aload_n 0, 1) := by decide +kernel
theorem d_Z_monitor_53 : decode b_Z_monitor 53 = .ok (.aload_n 0, 1) := by decide +kernel
theorem d_Z_monitor_54 : decode b_Z_monitor 54 = .ok (.getfield 127, 3) := by decide +kernel
theorem d_Z_monitor_57 : decode b_Z_monitor 57 = .ok (.bipush 8, 2) := by decide +kernel
theorem d_Z_monitor_59 : decode b_Z_monitor 59 = .ok (.if_icmp .ne 7, 3) := by decide +kernel
theorem d_Z_monitor_62 : decode b_Z_monitor 62 = .ok (.iconst 1, 1) := by decide +kernel
theorem d_Z_monitor_63 : decode b_Z_monitor 63 = .ok (.goto 4, 3) := by decide +kernel
theorem d_Z_monitor_66 : decode b_Z_monitor 66 = .ok (.iconst 0, 1) := by decide +kernel
theorem d_Z_monitor_67 : decode b_Z_monitor 67 = .ok (.putfield 78, 3) := by decide +kernel
theorem d_Z_monitor_70 : decode b_Z_monitor 70 = .ok (.aload_n 0, 1) := by decide +kernel
theorem d_Z_monitor_71 : decode b_Z_monitor 71 = .ok (.getfield 127, 3) := by decide +kernel
theorem d_Z_monitor_74 : decode b_Z_monitor 74 = .ok (.ireturn, 1) := by decide +kernel
theorem d_Z_sensor_0 : decode b_Z_sensor 0 = .ok (.aload_n 0, 1) := by decide +kernel
theorem d_Z_sensor_1 : decode b_Z_sensor 1 = .ok (.iconst 0, 1) := by decide +kernel
theorem d_Z_sensor_2 : decode b_Z_sensor 2 = .ok (.putfield 33, 3) := by decide +kernel
theorem d_Z_sensor_5 : decode b_Z_sensor 5 = .ok (.iload_n 1, 1) := by decide +kernel
theorem d_Z_sensor_6 : decode b_Z_sensor 6 = .ok (.ifCond .lt 8, 3) := by decide +kernel
theorem d_Z_sensor_9 : decode b_Z_sensor 9 = .ok (.iload_n 1, 1) := by decide +kernel
theorem d_Z_sensor_10 : decode b_Z_sensor 10 = .ok (.iconst 2, 1) := by decide +kernel
theorem d_Z_sensor_11 : decode b_Z_sensor 11 = .ok (.if_icmp .le 5, 3) := by decide +kernel
theorem d_Z_sensor_14 : decode b_Z_sensor 14 = .ok (.iconst (-1), 1) := by decide +kernel
theorem d_Z_sensor_15 : decode b_Z_sensor 15 = .ok (.ireturn, 1) := by decide +kernel
theorem d_Z_sensor_16 : decode b_Z_sensor 16 = .ok (.iload_n 2, 1) := by decide +kernel
theorem d_Z_sensor_17 : decode b_Z_sensor 17 = .ok (.ifCond .lt 8, 3) := by decide +kernel
theorem d_Z_sensor_20 : decode b_Z_sensor 20 = .ok (.iload_n 2, 1) := by decide +kernel
theorem d_Z_sensor_21 : decode b_Z_sensor 21 = .ok (.iconst 1, 1) := by decide +kernel
theorem d_Z_sensor_22 : decode b_Z_sensor 22 = .ok (.if_icmp .le 6, 3) := by decide +kernel
theorem d_Z_sensor_25 : decode b_Z_sensor 25 = .ok (.bipush (-2), 2) := by decide +kernel
theorem d_Z_sensor_27 : decode b_Z_sensor 27 = .ok (.ireturn, 1) := by decide +kernel
theorem d_Z_sensor_28 : decode b_Z_sensor 28 = .ok (.aload_n 0, 1) := by decide +kernel
theorem d_Z_sensor_29 : decode b_Z_sensor 29 = .ok (.getfield 13, 3) := by decide +kernel
theorem d_Z_sensor_32 : decode b_Z_sensor 32 = .ok (.iload_n 1, 1) := by decide +kernel
theorem d_Z_sensor_33 : decode b_Z_sensor 33 = .ok (.baload, 1) := by decide +kernel
theorem d_Z_sensor_34 : decode b_Z_sensor 34 = .ok (.ifCond .eq 7, 3) := by decide +kernel
theorem d_Z_sensor_37 : decode b_Z_sensor 37 = .ok (.iconst 1, 1) := by decide +kernel
theorem d_Z_sensor_38 : decode b_Z_sensor 38 = .ok (.goto 4, 3) := by decide +kernel
theorem d_Z_sensor_41 : decode b_Z_sensor 41 = .ok (.iconst 0, 1) := by decide +kernel
theorem d_Z_sensor_42 : decode b_Z_sensor 42 = .ok (.istore_n 3, 1) := by decide +kernel
theorem d_Z_sensor_43 : decode b_Z_sensor 43 = .ok (.aload_n 0, 1) := by decide +kernel
theorem d_Z_sensor_44 : decode b_Z_sensor 44 = .ok (.getfield 13, 3) := by decide +kernel
theorem d_Z_sensor_47 : decode b_Z_sensor 47 = .ok (.iload_n 1, 1) := by decide +kernel
theorem d_Z_sensor_48 : decode b_Z_sensor 48 = .ok (.iload_n 2, 1) := by decide +kernel
theorem d_Z_sensor_49 : decode b_Z_sensor 49 = .ok (.iconst 1, 1) := by decide +kernel
theorem d_Z_sensor_50 : decode b_Z_sensor 50 = .ok (.if_icmp .ne 7, 3) := by decide +kernel
theorem d_Z_sensor_53 : decode b_Z_sensor 53 = .ok (.iconst 1, 1) := by decide +kernel
theorem d_Z_sensor_54 : decode b_Z_sensor 54 = .ok (.goto 4, 3) := by decide +kernel
theorem d_Z_sensor_57 : decode b_Z_sensor 57 = .ok (.iconst 0, 1) := by decide +kernel
theorem d_Z_sensor_58 : decode b_Z_sensor 58 = .ok (.bastore, 1) := by decide +kernel
theorem d_Z_sensor_59 : decode b_Z_sensor 59 = .ok (.iload_n 3, 1) := by decide +kernel
theorem d_Z_sensor_60 : decode b_Z_sensor 60 = .ok (.ireturn, 1) := by decide +kernel
theorem d_Z_cylinder_0 : decode b_Z_cylinder 0 = .ok (.aload_n 0, 1) := by decide +kernel
theorem d_Z_cylinder_1 : decode b_Z_cylinder 1 = .ok (.iconst 0, 1) := by decide +kernel
theorem d_Z_cylinder_2 : decode b_Z_cylinder 2 = .ok (.putfield 33, 3) := by decide +kernel
theorem d_Z_cylinder_5 : decode b_Z_cylinder 5 = .ok (.iload_n 1, 1) := by decide +kernel
theorem d_Z_cylinder_6 : decode b_Z_cylinder 6 = .ok (.iconst 1, 1) := by decide +kernel
theorem d_Z_cylinder_7 : decode b_Z_cylinder 7 = .ok (.if_icmp .lt 9, 3) := by decide +kernel
theorem d_Z_cylinder_10 : decode b_Z_cylinder 10 = .ok (.iload_n 1, 1) := by decide +kernel
theorem d_Z_cylinder_11 : decode b_Z_cylinder 11 = .ok (.bipush 12, 2) := by decide +kernel
theorem d_Z_cylinder_13 : decode b_Z_cylinder 13 = .ok (.if_icmp .le 5, 3) := by decide +kernel
theorem d_Z_cylinder_16 : decode b_Z_cylinder 16 = .ok (.iconst 0, 1) := by decide +kernel
theorem d_Z_cylinder_17 : decode b_Z_cylinder 17 = .ok (.ireturn, 1) := by decide +kernel
theorem d_Z_cylinder_18 : decode b_Z_cylinder 18 = .ok (.aload_n 0, 1) := by decide +kernel
theorem d_Z_cylinder_19 : decode b_Z_cylinder 19 = .ok (.iload_n 1, 1) := by decide +kernel
