-- decode rows, as printed
theorem dL_law_412 : decode cL_law 412 = .ok (.ifCond .ne 44, 3) := by decide +kernel
theorem dL_law_415 : decode cL_law 415 = .ok (.aload 8, 2) := by decide +kernel
theorem dL_law_417 : decode cL_law 417 = .ok (.iconst 3, 1) := by decide +kernel
theorem dL_law_418 : decode cL_law 418 = .ok (.iconst 0, 1) := by decide +kernel
theorem dL_law_419 : decode cL_law 419 = .ok (.iconst 0, 1) := by decide +kernel
theorem dL_law_420 : decode cL_law 420 = .ok (.iconst 1, 1) := by decide +kernel
theorem dL_law_421 : decode cL_law 421 = .ok (.invokestatic 30, 3) := by decide +kernel
theorem dL_law_424 : decode cL_law 424 = .ok (.iconst (-1), 1) := by decide +kernel
theorem dL_law_425 : decode cL_law 425 = .ok (.if_icmp .ne 31, 3) := by decide +kernel
theorem dL_law_428 : decode cL_law 428 = .ok (.aload 8, 2) := by decide +kernel
theorem dL_law_430 : decode cL_law 430 = .ok (.iconst 4, 1) := by decide +kernel
theorem dL_law_431 : decode cL_law 431 = .ok (.iconst 0, 1) := by decide +kernel
theorem dL_law_432 : decode cL_law 432 = .ok (.iconst 0, 1) := by decide +kernel
theorem dL_law_433 : decode cL_law 433 = .ok (.iconst 0, 1) := by decide +kernel
theorem dL_law_434 : decode cL_law 434 = .ok (.invokestatic 30, 3) := by decide +kernel
theorem dL_law_437 : decode cL_law 437 = .ok (.bipush (-5), 2) := by decide +kernel
theorem dL_law_439 : decode cL_law 439 = .ok (.if_icmp .ne 17, 3) := by decide +kernel
theorem dL_law_442 : decode cL_law 442 = .ok (.aload 8, 2) := by decide +kernel
theorem dL_law_444 : decode cL_law 444 = .ok (.bipush 6, 2) := by decide +kernel
theorem dL_law_446 : decode cL_law 446 = .ok (.iconst 0, 1) := by decide +kernel
theorem dL_law_447 : decode cL_law 447 = .ok (.iconst 0, 1) := by decide +kernel
theorem dL_law_448 : decode cL_law 448 = .ok (.iconst 0, 1) := by decide +kernel
theorem dL_law_449 : decode cL_law 449 = .ok (.invokestatic 30, 3) := by decide +kernel
theorem dL_law_452 : decode cL_law 452 = .ok (.iconst (-1), 1) := by decide +kernel
theorem dL_law_453 : decode cL_law 453 = .ok (.if_icmp .eq 5, 3) := by decide +kernel
theorem dL_law_456 : decode cL_law 456 = .ok (.iconst 0, 1) := by decide +kernel
theorem dL_law_457 : decode cL_law 457 = .ok (.ireturn, 1) := by decide +kernel
theorem dL_law_458 : decode cL_law 458 = .ok (.aload 8, 2) := by decide +kernel
theorem dL_law_460 : decode cL_law 460 = .ok (.new 195, 3) := by decide +kernel
theorem dL_law_463 : decode cL_law 463 = .ok (.dup, 1) := by decide +kernel
theorem dL_law_464 : decode cL_law 464 = .ok (.invokespecial 197, 3) := by decide +kernel
theorem dL_law_467 : decode cL_law 467 = .ok (.ldc 198, 2) := by decide +kernel
theorem dL_law_469 : decode cL_law 469 = .ok (.invokevirtual 200, 3) := by decide +kernel
theorem dL_law_472 : decode cL_law 472 = .ok (.iload 6, 2) := by decide +kernel
theorem dL_law_474 : decode cL_law 474 = .ok (.invokevirtual 204, 3) := by decide +kernel
theorem dL_law_477 : decode cL_law 477 = .ok (.ldc 207, 2) := by decide +kernel
theorem dL_law_479 : decode cL_law 479 = .ok (.invokevirtual 200, 3) := by decide +kernel
theorem dL_law_482 : decode cL_law 482 = .ok (.iload 7, 2) := by decide +kernel
theorem dL_law_484 : decode cL_law 484 = .ok (.invokevirtual 204, 3) := by decide +kernel
theorem dL_law_487 : decode cL_law 487 = .ok (.ldc 209, 2) := by decide +kernel
theorem dL_law_489 : decode cL_law 489 = .ok (.invokevirtual 200, 3) := by decide +kernel
theorem dL_law_492 : decode cL_law 492 = .ok (.invokevirtual 211, 3) := by decide +kernel
theorem dL_law_495 : decode cL_law 495 = .ok (.invokestatic 146, 3) := by decide +kernel
theorem dL_law_498 : decode cL_law 498 = .ok (.bipush 7, 2) := by decide +kernel
theorem dL_law_500 : decode cL_law 500 = .ok (.iload 6, 2) := by decide +kernel
theorem dL_law_502 : decode cL_law 502 = .ok (.imul, 1) := by decide +kernel
theorem dL_law_503 : decode cL_law 503 = .ok (.bipush 6, 2) := by decide +kernel
theorem dL_law_505 : decode cL_law 505 = .ok (.iadd, 1) := by decide +kernel
theorem dL_law_506 : decode cL_law 506 = .ok (.iconst 5, 1) := by decide +kernel
theorem dL_law_507 : decode cL_law 507 = .ok (.iload 7, 2) := by decide +kernel
theorem dL_law_509 : decode cL_law 509 = .ok (.imul, 1) := by decide +kernel
theorem dL_law_510 : decode cL_law 510 = .ok (.iadd, 1) := by decide +kernel
theorem dL_law_511 : decode cL_law 511 = .ok (.istore 9, 2) := by decide +kernel
theorem dL_law_513 : decode cL_law 513 = .ok (.aload 8, 2) := by decide +kernel
theorem dL_law_515 : decode cL_law 515 = .ok (.invokevirtual 150, 3) := by decide +kernel
theorem dL_law_518 : decode cL_law 518 = .ok (.iconst 5, 1) := by decide +kernel
theorem dL_law_519 : decode cL_law 519 = .ok (.if_icmp .ne 180, 3) := by decide +kernel
theorem dL_law_522 : decode cL_law 522 = .ok (.aload 8, 2) := by decide +kernel
theorem dL_law_524 : decode cL_law 524 = .ok (.iconst 0, 1) := by decide +kernel
theorem dL_law_525 : decode cL_law 525 = .ok (.invokevirtual 40, 3) := by decide +kernel
theorem dL_law_528 : decode cL_law 528 = .ok (.ifCond .ne 171, 3) := by decide +kernel
theorem dL_law_531 : decode cL_law 531 = .ok (.aload 8, 2) := by decide +kernel
theorem dL_law_533 : decode cL_law 533 = .ok (.iconst 0, 1) := by decide +kernel
theorem dL_law_534 : decode cL_law 534 = .ok (.invokevirtual 84, 3) := by decide +kernel
theorem dL_law_537 : decode cL_law 537 = .ok (.iconst 4, 1) := by decide +kernel
theorem dL_law_538 : decode cL_law 538 = .ok (.if_icmp .ne 161, 3) := by decide +kernel
theorem dL_law_541 : decode cL_law 541 = .ok (.aload 8, 2) := by decide +kernel
theorem dL_law_543 : decode cL_law 543 = .ok (.iconst 0, 1) := by decide +kernel
theorem dL_law_544 : decode cL_law 544 = .ok (.invokevirtual 90, 3) := by decide +kernel
theorem dL_law_547 : decode cL_law 547 = .ok (.iload 9, 2) := by decide +kernel
theorem dL_law_549 : decode cL_law 549 = .ok (.bipush 100, 2) := by decide +kernel
theorem dL_law_551 : decode cL_law 551 = .ok (.irem, 1) := by decide +kernel
theorem dL_law_552 : decode cL_law 552 = .ok (.if_icmp .ne 147, 3) := by decide +kernel
theorem dL_law_555 : decode cL_law 555 = .ok (.aload 8, 2) := by decide +kernel
theorem dL_law_557 : decode cL_law 557 = .ok (.iconst 3, 1) := by decide +kernel
theorem dL_law_558 : decode cL_law 558 = .ok (.invokevirtual 90, 3) := by decide +kernel
theorem dL_law_561 : decode cL_law 561 = .ok (.iload 9, 2) := by decide +kernel
theorem dL_law_563 : decode cL_law 563 = .ok (.bipush 39, 2) := by decide +kernel
theorem dL_law_565 : decode cL_law 565 = .ok (.iadd, 1) := by decide +kernel
theorem dL_law_566 : decode cL_law 566 = .ok (.bipush 100, 2) := by decide +kernel
theorem dL_law_568 : decode cL_law 568 = .ok (.irem, 1) := by decide +kernel
theorem dL_law_569 : decode cL_law 569 = .ok (.if_icmp .ne 130, 3) := by decide +kernel
theorem dL_law_572 : decode cL_law 572 = .ok (.aload 8, 2) := by decide +kernel
theorem dL_law_574 : decode cL_law 574 = .ok (.iconst 0, 1) := by decide +kernel
theorem dL_law_575 : decode cL_law 575 = .ok (.invokevirtual 123, 3) := by decide +kernel
theorem dL_law_578 : decode cL_law 578 = .ok (.iconst 4, 1) := by decide +kernel
theorem dL_law_579 : decode cL_law 579 = .ok (.if_icmp .ne 120, 3) := by decide +kernel
theorem dL_law_582 : decode cL_law 582 = .ok (.aload 8, 2) := by decide +kernel
theorem dL_law_584 : decode cL_law 584 = .ok (.iconst 0, 1) := by decide +kernel
theorem dL_law_585 : decode cL_law 585 = .ok (.invokevirtual 108, 3) := by decide +kernel
theorem dL_law_588 : decode cL_law 588 = .ok (.bipush 40, 2) := by decide +kernel
theorem dL_law_590 : decode cL_law 590 = .ok (.iconst 4, 1) := by decide +kernel
theorem dL_law_591 : decode cL_law 591 = .ok (.iload 6, 2) := by decide +kernel
theorem dL_law_593 : decode cL_law 593 = .ok (.imul, 1) := by decide +kernel
theorem dL_law_594 : decode cL_law 594 = .ok (.isub, 1) := by decide +kernel
theorem dL_law_595 : decode cL_law 595 = .ok (.if_icmp .ne 104, 3) := by decide +kernel
theorem dL_law_598 : decode cL_law 598 = .ok (.aload 8, 2) := by decide +kernel
theorem dL_law_600 : decode cL_law 600 = .ok (.iconst 1, 1) := by decide +kernel
theorem dL_law_601 : decode cL_law 601 = .ok (.invokevirtual 108, 3) := by decide +kernel
theorem dL_law_604 : decode cL_law 604 = .ok (.ifCond .ne 95, 3) := by decide +kernel
theorem dL_law_607 : decode cL_law 607 = .ok (.aload 8, 2) := by decide +kernel
theorem dL_law_609 : decode cL_law 609 = .ok (.iconst 2, 1) := by decide +kernel
theorem dL_law_610 : decode cL_law 610 = .ok (.invokevirtual 108, 3) := by decide +kernel
theorem dL_law_613 : decode cL_law 613 = .ok (.bipush 12, 2) := by decide +kernel
theorem dL_law_615 : decode cL_law 615 = .ok (.if_icmp .ne 84, 3) := by decide +kernel
theorem dL_law_618 : decode cL_law 618 = .ok (.aload 8, 2) := by decide +kernel
theorem dL_law_620 : decode cL_law 620 = .ok (.iconst 0, 1) := by decide +kernel
theorem dL_law_621 : decode cL_law 621 = .ok (.invokevirtual 215, 3) := by decide +kernel
theorem dL_law_624 : decode cL_law 624 = .ok (.bipush 6, 2) := by decide +kernel
theorem dL_law_626 : decode cL_law 626 = .ok (.if_icmp .ne 73, 3) := by decide +kernel
theorem dL_law_629 : decode cL_law 629 = .ok (.aload 8, 2) := by decide +kernel
theorem dL_law_631 : decode cL_law 631 = .ok (.iconst 0, 1) := by decide +kernel
theorem dL_law_632 : decode cL_law 632 = .ok (.iconst 0, 1) := by decide +kernel
theorem dL_law_633 : decode cL_law 633 = .ok (.invokevirtual 218, 3) := by decide +kernel
theorem dL_law_636 : decode cL_law 636 = .ok (.iload 9, 2) := by decide +kernel
theorem dL_law_638 : decode cL_law 638 = .ok (.bipush 52, 2) := by decide +kernel
theorem dL_law_640 : decode cL_law 640 = .ok (.iadd, 1) := by decide +kernel
theorem dL_law_641 : decode cL_law 641 = .ok (.bipush 100, 2) := by decide +kernel
theorem dL_law_643 : decode cL_law 643 = .ok (.irem, 1) := by decide +kernel
theorem dL_law_644 : decode cL_law 644 = .ok (.if_icmp .ne 55, 3) := by decide +kernel
theorem dL_law_647 : decode cL_law 647 = .ok (.aload 8, 2) := by decide +kernel
theorem dL_law_649 : decode cL_law 649 = .ok (.iconst 2, 1) := by decide +kernel
theorem dL_law_650 : decode cL_law 650 = .ok (.invokevirtual 221, 3) := by decide +kernel
theorem dL_law_653 : decode cL_law 653 = .ok (.bipush 8, 2) := by decide +kernel
theorem dL_law_655 : decode cL_law 655 = .ok (.if_icmp .ne 44, 3) := by decide +kernel
theorem dL_law_658 : decode cL_law 658 = .ok (.aload 8, 2) := by decide +kernel
theorem dL_law_660 : decode cL_law 660 = .ok (.iconst 2, 1) := by decide +kernel
theorem dL_law_661 : decode cL_law 661 = .ok (.invokevirtual 224, 3) := by decide +kernel
theorem dL_law_664 : decode cL_law 664 = .ok (.bipush 8, 2) := by decide +kernel
theorem dL_law_666 : decode cL_law 666 = .ok (.if_icmp .ne 33, 3) := by decide +kernel
theorem dL_law_669 : decode cL_law 669 = .ok (.aload 8, 2) := by decide +kernel
theorem dL_law_671 : decode cL_law 671 = .ok (.iconst 3, 1) := by decide +kernel
theorem dL_law_672 : decode cL_law 672 = .ok (.iconst 0, 1) := by decide +kernel
theorem dL_law_673 : decode cL_law 673 = .ok (.iconst 0, 1) := by decide +kernel
theorem dL_law_674 : decode cL_law 674 = .ok (.bipush 7, 2) := by decide +kernel
theorem dL_law_676 : decode cL_law 676 = .ok (.invokestatic 30, 3) := by decide +kernel
theorem dL_law_679 : decode cL_law 679 = .ok (.bipush (-4), 2) := by decide +kernel
theorem dL_law_681 : decode cL_law 681 = .ok (.if_icmp .ne 18, 3) := by decide +kernel
theorem dL_law_684 : decode cL_law 684 = .ok (.aload 8, 2) := by decide +kernel
theorem dL_law_686 : decode cL_law 686 = .ok (.iconst 3, 1) := by decide +kernel
theorem dL_law_687 : decode cL_law 687 = .ok (.iconst 0, 1) := by decide +kernel
theorem dL_law_688 : decode cL_law 688 = .ok (.iconst 0, 1) := by decide +kernel
theorem dL_law_689 : decode cL_law 689 = .ok (.bipush 10, 2) := by decide +kernel
theorem dL_law_691 : decode cL_law 691 = .ok (.invokestatic 30, 3) := by decide +kernel
theorem dL_law_694 : decode cL_law 694 = .ok (.bipush (-2), 2) := by decide +kernel
theorem dL_law_696 : decode cL_law 696 = .ok (.if_icmp .eq 5, 3) := by decide +kernel
theorem dL_law_699 : decode cL_law 699 = .ok (.iconst 0, 1) := by decide +kernel
theorem dL_law_700 : decode cL_law 700 = .ok (.ireturn, 1) := by decide +kernel
theorem dL_law_701 : decode cL_law 701 = .ok (.aload 8, 2) := by decide +kernel
theorem dL_law_703 : decode cL_law 703 = .ok (.iload 9, 2) := by decide +kernel
theorem dL_law_705 : decode cL_law 705 = .ok (.bipush 100, 2) := by decide +kernel
theorem dL_law_707 : decode cL_law 707 = .ok (.irem, 1) := by decide +kernel
theorem dL_law_708 : decode cL_law 708 = .ok (.invokevirtual 68, 3) := by decide +kernel
theorem dL_law_711 : decode cL_law 711 = .ok (.bipush 50, 2) := by decide +kernel
theorem dL_law_713 : decode cL_law 713 = .ok (.if_icmp .ne 101, 3) := by decide +kernel
theorem dL_law_716 : decode cL_law 716 = .ok (.aload 8, 2) := by decide +kernel
theorem dL_law_718 : decode cL_law 718 = .ok (.iconst 0, 1) := by decide +kernel
theorem dL_law_719 : decode cL_law 719 = .ok (.invokevirtual 227, 3) := by decide +kernel
theorem dL_law_722 : decode cL_law 722 = .ok (.iconst 2, 1) := by decide +kernel
theorem dL_law_723 : decode cL_law 723 = .ok (.if_icmp .ne 91, 3) := by decide +kernel
theorem dL_law_726 : decode cL_law 726 = .ok (.aload 8, 2) := by decide +kernel
theorem dL_law_728 : decode cL_law 728 = .ok (.iconst 0, 1) := by decide +kernel
theorem dL_law_729 : decode cL_law 729 = .ok (.invokevirtual 230, 3) := by decide +kernel
theorem dL_law_732 : decode cL_law 732 = .ok (.ifCond .ne 82, 3) := by decide +kernel
theorem dL_law_735 : decode cL_law 735 = .ok (.aload 8, 2) := by decide +kernel
theorem dL_law_737 : decode cL_law 737 = .ok (.iconst 0, 1) := by decide +kernel
theorem dL_law_738 : decode cL_law 738 = .ok (.invokevirtual 233, 3) := by decide +kernel
theorem dL_law_741 : decode cL_law 741 = .ok (.iload 9, 2) := by decide +kernel
theorem dL_law_743 : decode cL_law 743 = .ok (.bipush 100, 2) := by decide +kernel
theorem dL_law_745 : decode cL_law 745 = .ok (.irem, 1) := by decide +kernel
theorem dL_law_746 : decode cL_law 746 = .ok (.iload 9, 2) := by decide +kernel
theorem dL_law_748 : decode cL_law 748 = .ok (.bipush 26, 2) := by decide +kernel
theorem dL_law_750 : decode cL_law 750 = .ok (.iadd, 1) := by decide +kernel
theorem dL_law_751 : decode cL_law 751 = .ok (.bipush 100, 2) := by decide +kernel
theorem dL_law_753 : decode cL_law 753 = .ok (.irem, 1) := by decide +kernel
theorem dL_law_754 : decode cL_law 754 = .ok (.invokestatic 236, 3) := by decide +kernel
theorem dL_law_757 : decode cL_law 757 = .ok (.if_icmp .ne 57, 3) := by decide +kernel
theorem dL_law_760 : decode cL_law 760 = .ok (.aload 8, 2) := by decide +kernel
theorem dL_law_762 : decode cL_law 762 = .ok (.iconst 0, 1) := by decide +kernel
theorem dL_law_763 : decode cL_law 763 = .ok (.invokevirtual 241, 3) := by decide +kernel
theorem dL_law_766 : decode cL_law 766 = .ok (.aload 8, 2) := by decide +kernel
theorem dL_law_768 : decode cL_law 768 = .ok (.iconst 0, 1) := by decide +kernel
theorem dL_law_769 : decode cL_law 769 = .ok (.invokevirtual 233, 3) := by decide +kernel
theorem dL_law_772 : decode cL_law 772 = .ok (.if_icmp .ne 42, 3) := by decide +kernel
theorem dL_law_775 : decode cL_law 775 = .ok (.aload 8, 2) := by decide +kernel
theorem dL_law_777 : decode cL_law 777 = .ok (.iconst 5, 1) := by decide +kernel
theorem dL_law_778 : decode cL_law 778 = .ok (.invokevirtual 71, 3) := by decide +kernel
theorem dL_law_781 : decode cL_law 781 = .ok (.iconst 2, 1) := by decide +kernel
theorem dL_law_782 : decode cL_law 782 = .ok (.if_icmp .ne 32, 3) := by decide +kernel
theorem dL_law_785 : decode cL_law 785 = .ok (.aload 8, 2) := by decide +kernel
theorem dL_law_787 : decode cL_law 787 = .ok (.iconst 0, 1) := by decide +kernel
theorem dL_law_788 : decode cL_law 788 = .ok (.invokevirtual 227, 3) := by decide +kernel
theorem dL_law_791 : decode cL_law 791 = .ok (.iconst 1, 1) := by decide +kernel
theorem dL_law_792 : decode cL_law 792 = .ok (.if_icmp .ne 22, 3) := by decide +kernel
theorem dL_law_795 : decode cL_law 795 = .ok (.aload 8, 2) := by decide +kernel
theorem dL_law_797 : decode cL_law 797 = .ok (.iconst 0, 1) := by decide +kernel
theorem dL_law_798 : decode cL_law 798 = .ok (.invokevirtual 230, 3) := by decide +kernel
theorem dL_law_801 : decode cL_law 801 = .ok (.ifCond .eq 13, 3) := by decide +kernel
theorem dL_law_804 : decode cL_law 804 = .ok (.aload 8, 2) := by decide +kernel
theorem dL_law_806 : decode cL_law 806 = .ok (.iconst 2, 1) := by decide +kernel
theorem dL_law_807 : decode cL_law 807 = .ok (.invokevirtual 71, 3) := by decide +kernel
theorem dL_law_810 : decode cL_law 810 = .ok (.iconst 5, 1) := by decide +kernel
