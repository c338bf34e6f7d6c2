theorem dL_law_412 : decode cL_law 412 = .ok (.goto 5, 3) := by decide +kernel
theorem dL_law_415 : decode cL_law 415 = .ok (.bipush (-12), 2) := by decide +kernel
theorem dL_law_417 : decode cL_law 417 = .ok (.if_icmp .ne 7, 3) := by decide +kernel
theorem dL_law_420 : decode cL_law 420 = .ok (.iconst 1, 1) := by decide +kernel
theorem dL_law_421 : decode cL_law 421 = .ok (.goto 4, 3) := by decide +kernel
theorem dL_law_424 : decode cL_law 424 = .ok (.iconst 0, 1) := by decide +kernel
theorem dL_law_425 : decode cL_law 425 = .ok (.istore 12, 2) := by decide +kernel
theorem dL_law_427 : decode cL_law 427 = .ok (.iload 23, 2) := by decide +kernel
theorem dL_law_429 : decode cL_law 429 = .ok (.ifCond .eq 48, 3) := by decide +kernel
theorem dL_law_432 : decode cL_law 432 = .ok (.aload_n 2, 1) := by decide +kernel
theorem dL_law_433 : decode cL_law 433 = .ok (.iconst 3, 1) := by decide +kernel
theorem dL_law_434 : decode cL_law 434 = .ok (.aload 11, 2) := by decide +kernel
theorem dL_law_436 : decode cL_law 436 = .ok (.iconst 1, 1) := by decide +kernel
theorem dL_law_437 : decode cL_law 437 = .ok (.iaload, 1) := by decide +kernel
theorem dL_law_438 : decode cL_law 438 = .ok (.imul, 1) := by decide +kernel
theorem dL_law_439 : decode cL_law 439 = .ok (.iload 20, 2) := by decide +kernel
theorem dL_law_441 : decode cL_law 441 = .ok (.iastore, 1) := by decide +kernel
theorem dL_law_442 : decode cL_law 442 = .ok (.aload_n 2, 1) := by decide +kernel
theorem dL_law_443 : decode cL_law 443 = .ok (.iconst 3, 1) := by decide +kernel
theorem dL_law_444 : decode cL_law 444 = .ok (.aload 11, 2) := by decide +kernel
theorem dL_law_446 : decode cL_law 446 = .ok (.iconst 1, 1) := by decide +kernel
theorem dL_law_447 : decode cL_law 447 = .ok (.iaload, 1) := by decide +kernel
theorem dL_law_448 : decode cL_law 448 = .ok (.imul, 1) := by decide +kernel
theorem dL_law_449 : decode cL_law 449 = .ok (.iconst 1, 1) := by decide +kernel
theorem dL_law_450 : decode cL_law 450 = .ok (.iadd, 1) := by decide +kernel
theorem dL_law_451 : decode cL_law 451 = .ok (.iload 20, 2) := by decide +kernel
theorem dL_law_453 : decode cL_law 453 = .ok (.iload 21, 2) := by decide +kernel
theorem dL_law_455 : decode cL_law 455 = .ok (.iadd, 1) := by decide +kernel
theorem dL_law_456 : decode cL_law 456 = .ok (.iastore, 1) := by decide +kernel
theorem dL_law_457 : decode cL_law 457 = .ok (.aload_n 2, 1) := by decide +kernel
theorem dL_law_458 : decode cL_law 458 = .ok (.iconst 3, 1) := by decide +kernel
theorem dL_law_459 : decode cL_law 459 = .ok (.aload 11, 2) := by decide +kernel
theorem dL_law_461 : decode cL_law 461 = .ok (.iconst 1, 1) := by decide +kernel
theorem dL_law_462 : decode cL_law 462 = .ok (.iaload, 1) := by decide +kernel
theorem dL_law_463 : decode cL_law 463 = .ok (.imul, 1) := by decide +kernel
theorem dL_law_464 : decode cL_law 464 = .ok (.iconst 2, 1) := by decide +kernel
theorem dL_law_465 : decode cL_law 465 = .ok (.iadd, 1) := by decide +kernel
theorem dL_law_466 : decode cL_law 466 = .ok (.iload 22, 2) := by decide +kernel
theorem dL_law_468 : decode cL_law 468 = .ok (.iastore, 1) := by decide +kernel
theorem dL_law_469 : decode cL_law 469 = .ok (.aload 11, 2) := by decide +kernel
theorem dL_law_471 : decode cL_law 471 = .ok (.iconst 1, 1) := by decide +kernel
theorem dL_law_472 : decode cL_law 472 = .ok (.dup2, 1) := by decide +kernel
theorem dL_law_473 : decode cL_law 473 = .ok (.iaload, 1) := by decide +kernel
theorem dL_law_474 : decode cL_law 474 = .ok (.iconst 1, 1) := by decide +kernel
theorem dL_law_475 : decode cL_law 475 = .ok (.iadd, 1) := by decide +kernel
theorem dL_law_476 : decode cL_law 476 = .ok (.iastore, 1) := by decide +kernel
theorem dL_law_477 : decode cL_law 477 = .ok (.goto 1025, 3) := by decide +kernel
theorem dL_law_480 : decode cL_law 480 = .ok (.iload 15, 2) := by decide +kernel
theorem dL_law_482 : decode cL_law 482 = .ok (.bipush 8, 2) := by decide +kernel
theorem dL_law_484 : decode cL_law 484 = .ok (.if_icmp .ge 124, 3) := by decide +kernel
theorem dL_law_487 : decode cL_law 487 = .ok (.iload 16, 2) := by decide +kernel
theorem dL_law_489 : decode cL_law 489 = .ok (.iconst 2, 1) := by decide +kernel
theorem dL_law_490 : decode cL_law 490 = .ok (.irem, 1) := by decide +kernel
theorem dL_law_491 : decode cL_law 491 = .ok (.istore 20, 2) := by decide +kernel
theorem dL_law_493 : decode cL_law 493 = .ok (.iconst 1, 1) := by decide +kernel
theorem dL_law_494 : decode cL_law 494 = .ok (.iload 16, 2) := by decide +kernel
theorem dL_law_496 : decode cL_law 496 = .ok (.iconst 2, 1) := by decide +kernel
theorem dL_law_497 : decode cL_law 497 = .ok (.idiv, 1) := by decide +kernel
theorem dL_law_498 : decode cL_law 498 = .ok (.iload 16, 2) := by decide +kernel
theorem dL_law_500 : decode cL_law 500 = .ok (.iconst 3, 1) := by decide +kernel
theorem dL_law_501 : decode cL_law 501 = .ok (.irem, 1) := by decide +kernel
theorem dL_law_502 : decode cL_law 502 = .ok (.ifCond .ne 9, 3) := by decide +kernel
theorem dL_law_505 : decode cL_law 505 = .ok (.sipush 1000, 3) := by decide +kernel
theorem dL_law_508 : decode cL_law 508 = .ok (.goto 5, 3) := by decide +kernel
theorem dL_law_511 : decode cL_law 511 = .ok (.bipush 100, 2) := by decide +kernel
theorem dL_law_513 : decode cL_law 513 = .ok (.irem, 1) := by decide +kernel
theorem dL_law_514 : decode cL_law 514 = .ok (.iadd, 1) := by decide +kernel
theorem dL_law_515 : decode cL_law 515 = .ok (.istore 21, 2) := by decide +kernel
theorem dL_law_517 : decode cL_law 517 = .ok (.aload 11, 2) := by decide +kernel
theorem dL_law_519 : decode cL_law 519 = .ok (.invokestatic 63, 3) := by decide +kernel
theorem dL_law_522 : decode cL_law 522 = .ok (.ifCond .lt 13, 3) := by decide +kernel
theorem dL_law_525 : decode cL_law 525 = .ok (.aload 11, 2) := by decide +kernel
theorem dL_law_527 : decode cL_law 527 = .ok (.invokestatic 63, 3) := by decide +kernel
theorem dL_law_530 : decode cL_law 530 = .ok (.iload 20, 2) := by decide +kernel
theorem dL_law_532 : decode cL_law 532 = .ok (.if_icmp .ne 7, 3) := by decide +kernel
theorem dL_law_535 : decode cL_law 535 = .ok (.iconst 1, 1) := by decide +kernel
theorem dL_law_536 : decode cL_law 536 = .ok (.goto 4, 3) := by decide +kernel
theorem dL_law_539 : decode cL_law 539 = .ok (.iconst 0, 1) := by decide +kernel
theorem dL_law_540 : decode cL_law 540 = .ok (.istore 22, 2) := by decide +kernel
theorem dL_law_542 : decode cL_law 542 = .ok (.aload_n 1, 1) := by decide +kernel
theorem dL_law_543 : decode cL_law 543 = .ok (.iload 20, 2) := by decide +kernel
theorem dL_law_545 : decode cL_law 545 = .ok (.iload 21, 2) := by decide +kernel
theorem dL_law_547 : decode cL_law 547 = .ok (.invokevirtual 103, 3) := by decide +kernel
theorem dL_law_550 : decode cL_law 550 = .ok (.iload 22, 2) := by decide +kernel
theorem dL_law_552 : decode cL_law 552 = .ok (.if_icmp .ne 7, 3) := by decide +kernel
theorem dL_law_555 : decode cL_law 555 = .ok (.iconst 1, 1) := by decide +kernel
theorem dL_law_556 : decode cL_law 556 = .ok (.goto 4, 3) := by decide +kernel
theorem dL_law_559 : decode cL_law 559 = .ok (.iconst 0, 1) := by decide +kernel
theorem dL_law_560 : decode cL_law 560 = .ok (.istore 12, 2) := by decide +kernel
theorem dL_law_562 : decode cL_law 562 = .ok (.aload 11, 2) := by decide +kernel
theorem dL_law_564 : decode cL_law 564 = .ok (.iconst 3, 1) := by decide +kernel
theorem dL_law_565 : decode cL_law 565 = .ok (.iload 22, 2) := by decide +kernel
theorem dL_law_567 : decode cL_law 567 = .ok (.ifCond .eq 10, 3) := by decide +kernel
theorem dL_law_570 : decode cL_law 570 = .ok (.iload 20, 2) := by decide +kernel
theorem dL_law_572 : decode cL_law 572 = .ok (.iconst 1, 1) := by decide +kernel
theorem dL_law_573 : decode cL_law 573 = .ok (.iadd, 1) := by decide +kernel
theorem dL_law_574 : decode cL_law 574 = .ok (.goto 7, 3) := by decide +kernel
theorem dL_law_577 : decode cL_law 577 = .ok (.aload 11, 2) := by decide +kernel
theorem dL_law_579 : decode cL_law 579 = .ok (.iconst 3, 1) := by decide +kernel
theorem dL_law_580 : decode cL_law 580 = .ok (.iaload, 1) := by decide +kernel
theorem dL_law_581 : decode cL_law 581 = .ok (.iastore, 1) := by decide +kernel
theorem dL_law_582 : decode cL_law 582 = .ok (.aload 11, 2) := by decide +kernel
theorem dL_law_584 : decode cL_law 584 = .ok (.iconst 4, 1) := by decide +kernel
theorem dL_law_585 : decode cL_law 585 = .ok (.iload 22, 2) := by decide +kernel
theorem dL_law_587 : decode cL_law 587 = .ok (.ifCond .eq 13, 3) := by decide +kernel
theorem dL_law_590 : decode cL_law 590 = .ok (.aload 11, 2) := by decide +kernel
theorem dL_law_592 : decode cL_law 592 = .ok (.iconst 0, 1) := by decide +kernel
theorem dL_law_593 : decode cL_law 593 = .ok (.iaload, 1) := by decide +kernel
theorem dL_law_594 : decode cL_law 594 = .ok (.iload 21, 2) := by decide +kernel
theorem dL_law_596 : decode cL_law 596 = .ok (.iadd, 1) := by decide +kernel
theorem dL_law_597 : decode cL_law 597 = .ok (.goto 7, 3) := by decide +kernel
theorem dL_law_600 : decode cL_law 600 = .ok (.aload 11, 2) := by decide +kernel
theorem dL_law_602 : decode cL_law 602 = .ok (.iconst 4, 1) := by decide +kernel
theorem dL_law_603 : decode cL_law 603 = .ok (.iaload, 1) := by decide +kernel
theorem dL_law_604 : decode cL_law 604 = .ok (.iastore, 1) := by decide +kernel
theorem dL_law_605 : decode cL_law 605 = .ok (.goto 897, 3) := by decide +kernel
theorem dL_law_608 : decode cL_law 608 = .ok (.iload 15, 2) := by decide +kernel
theorem dL_law_610 : decode cL_law 610 = .ok (.bipush 16, 2) := by decide +kernel
theorem dL_law_612 : decode cL_law 612 = .ok (.if_icmp .ge 428, 3) := by decide +kernel
theorem dL_law_615 : decode cL_law 615 = .ok (.aload 11, 2) := by decide +kernel
theorem dL_law_617 : decode cL_law 617 = .ok (.iconst 2, 1) := by decide +kernel
theorem dL_law_618 : decode cL_law 618 = .ok (.iaload, 1) := by decide +kernel
theorem dL_law_619 : decode cL_law 619 = .ok (.bipush 60, 2) := by decide +kernel
theorem dL_law_621 : decode cL_law 621 = .ok (.if_icmp .ge 419, 3) := by decide +kernel
theorem dL_law_624 : decode cL_law 624 = .ok (.iload 16, 2) := by decide +kernel
theorem dL_law_626 : decode cL_law 626 = .ok (.iconst 3, 1) := by decide +kernel
theorem dL_law_627 : decode cL_law 627 = .ok (.irem, 1) := by decide +kernel
theorem dL_law_628 : decode cL_law 628 = .ok (.ifCond .le 19, 3) := by decide +kernel
theorem dL_law_631 : decode cL_law 631 = .ok (.aload 11, 2) := by decide +kernel
theorem dL_law_633 : decode cL_law 633 = .ok (.invokestatic 63, 3) := by decide +kernel
theorem dL_law_636 : decode cL_law 636 = .ok (.ifCond .lt 11, 3) := by decide +kernel
theorem dL_law_639 : decode cL_law 639 = .ok (.aload 11, 2) := by decide +kernel
theorem dL_law_641 : decode cL_law 641 = .ok (.invokestatic 63, 3) := by decide +kernel
theorem dL_law_644 : decode cL_law 644 = .ok (.goto 7, 3) := by decide +kernel
theorem dL_law_647 : decode cL_law 647 = .ok (.iload 16, 2) := by decide +kernel
theorem dL_law_649 : decode cL_law 649 = .ok (.iconst 2, 1) := by decide +kernel
theorem dL_law_650 : decode cL_law 650 = .ok (.irem, 1) := by decide +kernel
theorem dL_law_651 : decode cL_law 651 = .ok (.istore 20, 2) := by decide +kernel
theorem dL_law_653 : decode cL_law 653 = .ok (.iload 16, 2) := by decide +kernel
theorem dL_law_655 : decode cL_law 655 = .ok (.bipush 11, 2) := by decide +kernel
theorem dL_law_657 : decode cL_law 657 = .ok (.irem, 1) := by decide +kernel
theorem dL_law_658 : decode cL_law 658 = .ok (.ifCond .ne 14, 3) := by decide +kernel
theorem dL_law_661 : decode cL_law 661 = .ok (.iload 16, 2) := by decide +kernel
theorem dL_law_663 : decode cL_law 663 = .ok (.bipush 11, 2) := by decide +kernel
theorem dL_law_665 : decode cL_law 665 = .ok (.idiv, 1) := by decide +kernel
theorem dL_law_666 : decode cL_law 666 = .ok (.bipush 20, 2) := by decide +kernel
theorem dL_law_668 : decode cL_law 668 = .ok (.irem, 1) := by decide +kernel
theorem dL_law_669 : decode cL_law 669 = .ok (.goto 11, 3) := by decide +kernel
theorem dL_law_672 : decode cL_law 672 = .ok (.iload 16, 2) := by decide +kernel
theorem dL_law_674 : decode cL_law 674 = .ok (.iconst 3, 1) := by decide +kernel
theorem dL_law_675 : decode cL_law 675 = .ok (.idiv, 1) := by decide +kernel
theorem dL_law_676 : decode cL_law 676 = .ok (.sipush 1000, 3) := by decide +kernel
theorem dL_law_679 : decode cL_law 679 = .ok (.irem, 1) := by decide +kernel
theorem dL_law_680 : decode cL_law 680 = .ok (.istore 21, 2) := by decide +kernel
theorem dL_law_682 : decode cL_law 682 = .ok (.iconst (-1), 1) := by decide +kernel
theorem dL_law_683 : decode cL_law 683 = .ok (.istore 22, 2) := by decide +kernel
theorem dL_law_685 : decode cL_law 685 = .ok (.iconst 0, 1) := by decide +kernel
theorem dL_law_686 : decode cL_law 686 = .ok (.istore 23, 2) := by decide +kernel
theorem dL_law_688 : decode cL_law 688 = .ok (.iload 23, 2) := by decide +kernel
theorem dL_law_690 : decode cL_law 690 = .ok (.aload 11, 2) := by decide +kernel
theorem dL_law_692 : decode cL_law 692 = .ok (.iconst 2, 1) := by decide +kernel
theorem dL_law_693 : decode cL_law 693 = .ok (.iaload, 1) := by decide +kernel
theorem dL_law_694 : decode cL_law 694 = .ok (.if_icmp .ge 28, 3) := by decide +kernel
theorem dL_law_697 : decode cL_law 697 = .ok (.aload 10, 2) := by decide +kernel
theorem dL_law_699 : decode cL_law 699 = .ok (.iload 23, 2) := by decide +kernel
theorem dL_law_701 : decode cL_law 701 = .ok (.iaload, 1) := by decide +kernel
theorem dL_law_702 : decode cL_law 702 = .ok (.iload 21, 2) := by decide +kernel
theorem dL_law_704 : decode cL_law 704 = .ok (.if_icmp .ne 8, 3) := by decide +kernel
theorem dL_law_707 : decode cL_law 707 = .ok (.iload 23, 2) := by decide +kernel
theorem dL_law_709 : decode cL_law 709 = .ok (.goto 5, 3) := by decide +kernel
theorem dL_law_712 : decode cL_law 712 = .ok (.iload 22, 2) := by decide +kernel
theorem dL_law_714 : decode cL_law 714 = .ok (.istore 22, 2) := by decide +kernel
theorem dL_law_716 : decode cL_law 716 = .ok (.iinc 23 1, 3) := by decide +kernel
theorem dL_law_719 : decode cL_law 719 = .ok (.goto (-31), 3) := by decide +kernel
theorem dL_law_722 : decode cL_law 722 = .ok (.iconst 0, 1) := by decide +kernel
theorem dL_law_723 : decode cL_law 723 = .ok (.istore 23, 2) := by decide +kernel
theorem dL_law_725 : decode cL_law 725 = .ok (.iload 23, 2) := by decide +kernel
theorem dL_law_727 : decode cL_law 727 = .ok (.iconst 5, 1) := by decide +kernel
theorem dL_law_728 : decode cL_law 728 = .ok (.if_icmp .ge 50, 3) := by decide +kernel
theorem dL_law_731 : decode cL_law 731 = .ok (.iload 16, 2) := by decide +kernel
theorem dL_law_733 : decode cL_law 733 = .ok (.bipush 13, 2) := by decide +kernel
theorem dL_law_735 : decode cL_law 735 = .ok (.irem, 1) := by decide +kernel
theorem dL_law_736 : decode cL_law 736 = .ok (.ifCond .le 42, 3) := by decide +kernel
theorem dL_law_739 : decode cL_law 739 = .ok (.aload 11, 2) := by decide +kernel
theorem dL_law_741 : decode cL_law 741 = .ok (.iconst 1, 1) := by decide +kernel
theorem dL_law_742 : decode cL_law 742 = .ok (.iaload, 1) := by decide +kernel
theorem dL_law_743 : decode cL_law 743 = .ok (.ifCond .le 35, 3) := by decide +kernel
theorem dL_law_746 : decode cL_law 746 = .ok (.aload 11, 2) := by decide +kernel
theorem dL_law_748 : decode cL_law 748 = .ok (.aload_n 2, 1) := by decide +kernel
theorem dL_law_749 : decode cL_law 749 = .ok (.aload_n 3, 1) := by decide +kernel
theorem dL_law_750 : decode cL_law 750 = .ok (.aload 4, 2) := by decide +kernel
theorem dL_law_752 : decode cL_law 752 = .ok (.aload 6, 2) := by decide +kernel
theorem dL_law_754 : decode cL_law 754 = .ok (.iload 18, 2) := by decide +kernel
theorem dL_law_756 : decode cL_law 756 = .ok (.iload 17, 2) := by decide +kernel
theorem dL_law_758 : decode cL_law 758 = .ok (.invokestatic 25, 3) := by decide +kernel
theorem dL_law_761 : decode cL_law 761 = .ok (.ifCond .ne 17, 3) := by decide +kernel
theorem dL_law_764 : decode cL_law 764 = .ok (.iload 18, 2) := by decide +kernel
theorem dL_law_766 : decode cL_law 766 = .ok (.iconst 1, 1) := by decide +kernel
theorem dL_law_767 : decode cL_law 767 = .ok (.iadd, 1) := by decide +kernel
theorem dL_law_768 : decode cL_law 768 = .ok (.iconst 5, 1) := by decide +kernel
theorem dL_law_769 : decode cL_law 769 = .ok (.irem, 1) := by decide +kernel
theorem dL_law_770 : decode cL_law 770 = .ok (.istore 18, 2) := by decide +kernel
theorem dL_law_772 : decode cL_law 772 = .ok (.iinc 23 1, 3) := by decide +kernel
theorem dL_law_775 : decode cL_law 775 = .ok (.goto (-50), 3) := by decide +kernel
theorem dL_law_778 : decode cL_law 778 = .ok (.iconst 0, 1) := by decide +kernel
theorem dL_law_779 : decode cL_law 779 = .ok (.istore 23, 2) := by decide +kernel
theorem dL_law_781 : decode cL_law 781 = .ok (.iload 23, 2) := by decide +kernel
theorem dL_law_783 : decode cL_law 783 = .ok (.iconst 5, 1) := by decide +kernel
theorem dL_law_784 : decode cL_law 784 = .ok (.if_icmp .ge 50, 3) := by decide +kernel
theorem dL_law_787 : decode cL_law 787 = .ok (.iload 16, 2) := by decide +kernel
theorem dL_law_789 : decode cL_law 789 = .ok (.bipush 17, 2) := by decide +kernel
theorem dL_law_791 : decode cL_law 791 = .ok (.irem, 1) := by decide +kernel
theorem dL_law_792 : decode cL_law 792 = .ok (.ifCond .le 42, 3) := by decide +kernel
theorem dL_law_795 : decode cL_law 795 = .ok (.aload 11, 2) := by decide +kernel
theorem dL_law_797 : decode cL_law 797 = .ok (.iconst 1, 1) := by decide +kernel
theorem dL_law_798 : decode cL_law 798 = .ok (.iaload, 1) := by decide +kernel
theorem dL_law_799 : decode cL_law 799 = .ok (.ifCond .le 35, 3) := by decide +kernel
theorem dL_law_802 : decode cL_law 802 = .ok (.aload 11, 2) := by decide +kernel
theorem dL_law_804 : decode cL_law 804 = .ok (.aload_n 2, 1) := by decide +kernel
theorem dL_law_805 : decode cL_law 805 = .ok (.aload_n 3, 1) := by decide +kernel
theorem dL_law_806 : decode cL_law 806 = .ok (.aload 5, 2) := by decide +kernel
theorem dL_law_808 : decode cL_law 808 = .ok (.aload 7, 2) := by decide +kernel
theorem dL_law_810 : decode cL_law 810 = .ok (.iload 19, 2) := by decide +kernel
theorem dL_law_812 : decode cL_law 812 = .ok (.iload 17, 2) := by decide +kernel
theorem dL_law_814 : decode cL_law 814 = .ok (.invokestatic 29, 3) := by decide +kernel
theorem dL_law_817 : decode cL_law 817 = .ok (.ifCond .ne 17, 3) := by decide +kernel
theorem dL_law_820 : decode cL_law 820 = .ok (.iload 19, 2) := by decide +kernel
theorem dL_law_822 : decode cL_law 822 = .ok (.iconst 1, 1) := by decide +kernel
theorem dL_law_823 : decode cL_law 823 = .ok (.iadd, 1) := by decide +kernel
theorem dL_law_824 : decode cL_law 824 = .ok (.iconst 5, 1) := by decide +kernel
theorem dL_law_825 : decode cL_law 825 = .ok (.irem, 1) := by decide +kernel
theorem dL_law_826 : decode cL_law 826 = .ok (.istore 19, 2) := by decide +kernel
theorem dL_law_828 : decode cL_law 828 = .ok (.iinc 23 1, 3) := by decide +kernel
theorem dL_law_831 : decode cL_law 831 = .ok (.goto (-50), 3) := by decide +kernel
theorem dL_law_834 : decode cL_law 834 = .ok (.aload 11, 2) := by decide +kernel
theorem dL_law_836 : decode cL_law 836 = .ok (.iconst 1, 1) := by decide +kernel
theorem dL_law_837 : decode cL_law 837 = .ok (.iaload, 1) := by decide +kernel
theorem dL_law_838 : decode cL_law 838 = .ok (.ifCond .le 60, 3) := by decide +kernel
theorem dL_law_841 : decode cL_law 841 = .ok (.aload 11, 2) := by decide +kernel
theorem dL_law_843 : decode cL_law 843 = .ok (.invokestatic 63, 3) := by decide +kernel
theorem dL_law_846 : decode cL_law 846 = .ok (.iload 20, 2) := by decide +kernel
theorem dL_law_848 : decode cL_law 848 = .ok (.if_icmp .ne 50, 3) := by decide +kernel
theorem dL_law_851 : decode cL_law 851 = .ok (.aload_n 3, 1) := by decide +kernel
theorem dL_law_852 : decode cL_law 852 = .ok (.iload 17, 2) := by decide +kernel
theorem dL_law_854 : decode cL_law 854 = .ok (.iaload, 1) := by decide +kernel
theorem dL_law_855 : decode cL_law 855 = .ok (.ifCond .ne 43, 3) := by decide +kernel
theorem dL_law_858 : decode cL_law 858 = .ok (.aload 11, 2) := by decide +kernel
theorem dL_law_860 : decode cL_law 860 = .ok (.aload_n 2, 1) := by decide +kernel
theorem dL_law_861 : decode cL_law 861 = .ok (.aload_n 3, 1) := by decide +kernel
theorem dL_law_862 : decode cL_law 862 = .ok (.aload 4, 2) := by decide +kernel
theorem dL_law_864 : decode cL_law 864 = .ok (.aload 6, 2) := by decide +kernel
theorem dL_law_866 : decode cL_law 866 = .ok (.iload 18, 2) := by decide +kernel
theorem dL_law_868 : decode cL_law 868 = .ok (.iload 17, 2) := by decide +kernel
theorem dL_law_870 : decode cL_law 870 = .ok (.invokestatic 25, 3) := by decide +kernel
theorem dL_law_873 : decode cL_law 873 = .ok (.ifCond .eq 25, 3) := by decide +kernel
theorem dL_law_876 : decode cL_law 876 = .ok (.aload 11, 2) := by decide +kernel
theorem dL_law_878 : decode cL_law 878 = .ok (.aload_n 2, 1) := by decide +kernel
theorem dL_law_879 : decode cL_law 879 = .ok (.aload_n 3, 1) := by decide +kernel
theorem dL_law_880 : decode cL_law 880 = .ok (.aload 5, 2) := by decide +kernel
theorem dL_law_882 : decode cL_law 882 = .ok (.aload 7, 2) := by decide +kernel
theorem dL_law_884 : decode cL_law 884 = .ok (.iload 19, 2) := by decide +kernel
theorem dL_law_886 : decode cL_law 886 = .ok (.iload 17, 2) := by decide +kernel
theorem dL_law_888 : decode cL_law 888 = .ok (.invokestatic 29, 3) := by decide +kernel
theorem dL_law_891 : decode cL_law 891 = .ok (.ifCond .eq 7, 3) := by decide +kernel
theorem dL_law_894 : decode cL_law 894 = .ok (.iconst 1, 1) := by decide +kernel
theorem dL_law_895 : decode cL_law 895 = .ok (.goto 4, 3) := by decide +kernel
theorem dL_law_898 : decode cL_law 898 = .ok (.iconst 0, 1) := by decide +kernel
theorem dL_law_899 : decode cL_law 899 = .ok (.istore 23, 2) := by decide +kernel
theorem dL_law_901 : decode cL_law 901 = .ok (.aload 11, 2) := by decide +kernel
theorem dL_law_903 : decode cL_law 903 = .ok (.iconst 1, 1) := by decide +kernel
theorem dL_law_904 : decode cL_law 904 = .ok (.iaload, 1) := by decide +kernel
theorem dL_law_905 : decode cL_law 905 = .ok (.ifCond .ne 8, 3) := by decide +kernel
theorem dL_law_908 : decode cL_law 908 = .ok (.bipush (-11), 2) := by decide +kernel
theorem dL_law_910 : decode cL_law 910 = .ok (.goto 27, 3) := by decide +kernel
theorem dL_law_913 : decode cL_law 913 = .ok (.iload 22, 2) := by decide +kernel
theorem dL_law_915 : decode cL_law 915 = .ok (.ifCond .lt 8, 3) := by decide +kernel
theorem dL_law_918 : decode cL_law 918 = .ok (.iload 22, 2) := by decide +kernel
theorem dL_law_920 : decode cL_law 920 = .ok (.goto 17, 3) := by decide +kernel
theorem dL_law_923 : decode cL_law 923 = .ok (.iload 23, 2) := by decide +kernel
theorem dL_law_925 : decode cL_law 925 = .ok (.ifCond .eq 10, 3) := by decide +kernel
theorem dL_law_928 : decode cL_law 928 = .ok (.aload 11, 2) := by decide +kernel
theorem dL_law_930 : decode cL_law 930 = .ok (.iconst 2, 1) := by decide +kernel
theorem dL_law_931 : decode cL_law 931 = .ok (.iaload, 1) := by decide +kernel
theorem dL_law_932 : decode cL_law 932 = .ok (.goto 5, 3) := by decide +kernel
theorem dL_law_935 : decode cL_law 935 = .ok (.bipush (-13), 2) := by decide +kernel
theorem dL_law_937 : decode cL_law 937 = .ok (.istore 24, 2) := by decide +kernel
theorem dL_law_939 : decode cL_law 939 = .ok (.iload 23, 2) := by decide +kernel
theorem dL_law_941 : decode cL_law 941 = .ok (.ifCond .eq 69, 3) := by decide +kernel
theorem dL_law_944 : decode cL_law 944 = .ok (.iload 22, 2) := by decide +kernel
theorem dL_law_946 : decode cL_law 946 = .ok (.ifCond .ge 64, 3) := by decide +kernel
theorem dL_law_949 : decode cL_law 949 = .ok (.aload_n 3, 1) := by decide +kernel
theorem dL_law_950 : decode cL_law 950 = .ok (.iload 17, 2) := by decide +kernel
theorem dL_law_952 : decode cL_law 952 = .ok (.iconst 1, 1) := by decide +kernel
theorem dL_law_953 : decode cL_law 953 = .ok (.iastore, 1) := by decide +kernel
theorem dL_law_954 : decode cL_law 954 = .ok (.aload 4, 2) := by decide +kernel
theorem dL_law_956 : decode cL_law 956 = .ok (.iload 17, 2) := by decide +kernel
theorem dL_law_958 : decode cL_law 958 = .ok (.iload 18, 2) := by decide +kernel
theorem dL_law_960 : decode cL_law 960 = .ok (.iconst 1, 1) := by decide +kernel
theorem dL_law_961 : decode cL_law 961 = .ok (.iadd, 1) := by decide +kernel
theorem dL_law_962 : decode cL_law 962 = .ok (.iastore, 1) := by decide +kernel
theorem dL_law_963 : decode cL_law 963 = .ok (.aload 5, 2) := by decide +kernel
theorem dL_law_965 : decode cL_law 965 = .ok (.iload 17, 2) := by decide +kernel
theorem dL_law_967 : decode cL_law 967 = .ok (.iload 19, 2) := by decide +kernel
theorem dL_law_969 : decode cL_law 969 = .ok (.iconst 1, 1) := by decide +kernel
theorem dL_law_970 : decode cL_law 970 = .ok (.iadd, 1) := by decide +kernel
theorem dL_law_971 : decode cL_law 971 = .ok (.iastore, 1) := by decide +kernel
theorem dL_law_972 : decode cL_law 972 = .ok (.aload 9, 2) := by decide +kernel
theorem dL_law_974 : decode cL_law 974 = .ok (.aload 11, 2) := by decide +kernel
theorem dL_law_976 : decode cL_law 976 = .ok (.iconst 2, 1) := by decide +kernel
theorem dL_law_977 : decode cL_law 977 = .ok (.iaload, 1) := by decide +kernel
theorem dL_law_978 : decode cL_law 978 = .ok (.bipush 100, 2) := by decide +kernel
theorem dL_law_980 : decode cL_law 980 = .ok (.iload 17, 2) := by decide +kernel
theorem dL_law_982 : decode cL_law 982 = .ok (.imul, 1) := by decide +kernel
theorem dL_law_983 : decode cL_law 983 = .ok (.bipush 10, 2) := by decide +kernel
theorem dL_law_985 : decode cL_law 985 = .ok (.iload 18, 2) := by decide +kernel
theorem dL_law_987 : decode cL_law 987 = .ok (.imul, 1) := by decide +kernel
theorem dL_law_988 : decode cL_law 988 = .ok (.iadd, 1) := by decide +kernel
theorem dL_law_989 : decode cL_law 989 = .ok (.iload 19, 2) := by decide +kernel
theorem dL_law_991 : decode cL_law 991 = .ok (.iadd, 1) := by decide +kernel
theorem dL_law_992 : decode cL_law 992 = .ok (.iastore, 1) := by decide +kernel
theorem dL_law_993 : decode cL_law 993 = .ok (.aload 10, 2) := by decide +kernel
theorem dL_law_995 : decode cL_law 995 = .ok (.aload 11, 2) := by decide +kernel
theorem dL_law_997 : decode cL_law 997 = .ok (.iconst 2, 1) := by decide +kernel
theorem dL_law_998 : decode cL_law 998 = .ok (.iaload, 1) := by decide +kernel
theorem dL_law_999 : decode cL_law 999 = .ok (.iload 21, 2) := by decide +kernel
theorem dL_law_1001 : decode cL_law 1001 = .ok (.iastore, 1) := by decide +kernel
theorem dL_law_1002 : decode cL_law 1002 = .ok (.aload 11, 2) := by decide +kernel
theorem dL_law_1004 : decode cL_law 1004 = .ok (.iconst 2, 1) := by decide +kernel
theorem dL_law_1005 : decode cL_law 1005 = .ok (.dup2, 1) := by decide +kernel
theorem dL_law_1006 : decode cL_law 1006 = .ok (.iaload, 1) := by decide +kernel
theorem dL_law_1007 : decode cL_law 1007 = .ok (.iconst 1, 1) := by decide +kernel
theorem dL_law_1008 : decode cL_law 1008 = .ok (.iadd, 1) := by decide +kernel
theorem dL_law_1009 : decode cL_law 1009 = .ok (.iastore, 1) := by decide +kernel
theorem dL_law_1010 : decode cL_law 1010 = .ok (.aload_n 1, 1) := by decide +kernel
theorem dL_law_1011 : decode cL_law 1011 = .ok (.iconst 1, 1) := by decide +kernel
theorem dL_law_1012 : decode cL_law 1012 = .ok (.iload 20, 2) := by decide +kernel
theorem dL_law_1014 : decode cL_law 1014 = .ok (.iload 21, 2) := by decide +kernel
theorem dL_law_1016 : decode cL_law 1016 = .ok (.iload 17, 2) := by decide +kernel
theorem dL_law_1018 : decode cL_law 1018 = .ok (.iload 18, 2) := by decide +kernel
theorem dL_law_1020 : decode cL_law 1020 = .ok (.iload 19, 2) := by decide +kernel
theorem dL_law_1022 : decode cL_law 1022 = .ok (.invokestatic 99, 3) := by decide +kernel
theorem dL_law_1025 : decode cL_law 1025 = .ok (.iload 24, 2) := by decide +kernel
theorem dL_law_1027 : decode cL_law 1027 = .ok (.if_icmp .ne 7, 3) := by decide +kernel
theorem dL_law_1030 : decode cL_law 1030 = .ok (.iconst 1, 1) := by decide +kernel
theorem dL_law_1031 : decode cL_law 1031 = .ok (.goto 4, 3) := by decide +kernel
theorem dL_law_1034 : decode cL_law 1034 = .ok (.iconst 0, 1) := by decide +kernel
theorem dL_law_1035 : decode cL_law 1035 = .ok (.istore 12, 2) := by decide +kernel
theorem dL_law_1037 : decode cL_law 1037 = .ok (.goto 465, 3) := by decide +kernel
theorem dL_law_1040 : decode cL_law 1040 = .ok (.iload 15, 2) := by decide +kernel
theorem dL_law_1042 : decode cL_law 1042 = .ok (.bipush 16, 2) := by decide +kernel
theorem dL_law_1044 : decode cL_law 1044 = .ok (.if_icmp .ne 101, 3) := by decide +kernel
theorem dL_law_1047 : decode cL_law 1047 = .ok (.iload 16, 2) := by decide +kernel
theorem dL_law_1049 : decode cL_law 1049 = .ok (.iconst 3, 1) := by decide +kernel
theorem dL_law_1050 : decode cL_law 1050 = .ok (.irem, 1) := by decide +kernel
theorem dL_law_1051 : decode cL_law 1051 = .ok (.ifCond .le 7, 3) := by decide +kernel
theorem dL_law_1054 : decode cL_law 1054 = .ok (.iconst 1, 1) := by decide +kernel
theorem dL_law_1055 : decode cL_law 1055 = .ok (.goto 4, 3) := by decide +kernel
theorem dL_law_1058 : decode cL_law 1058 = .ok (.iconst 0, 1) := by decide +kernel
theorem dL_law_1059 : decode cL_law 1059 = .ok (.istore 20, 2) := by decide +kernel
theorem dL_law_1061 : decode cL_law 1061 = .ok (.aload 6, 2) := by decide +kernel
theorem dL_law_1063 : decode cL_law 1063 = .ok (.iconst 2, 1) := by decide +kernel
theorem dL_law_1064 : decode cL_law 1064 = .ok (.iload 18, 2) := by decide +kernel
theorem dL_law_1066 : decode cL_law 1066 = .ok (.imul, 1) := by decide +kernel
theorem dL_law_1067 : decode cL_law 1067 = .ok (.iconst 1, 1) := by decide +kernel
theorem dL_law_1068 : decode cL_law 1068 = .ok (.iadd, 1) := by decide +kernel
theorem dL_law_1069 : decode cL_law 1069 = .ok (.iaload, 1) := by decide +kernel
theorem dL_law_1070 : decode cL_law 1070 = .ok (.iconst 1, 1) := by decide +kernel
theorem dL_law_1071 : decode cL_law 1071 = .ok (.if_icmp .ne 7, 3) := by decide +kernel
theorem dL_law_1074 : decode cL_law 1074 = .ok (.iconst 1, 1) := by decide +kernel
theorem dL_law_1075 : decode cL_law 1075 = .ok (.goto 4, 3) := by decide +kernel
theorem dL_law_1078 : decode cL_law 1078 = .ok (.iconst 0, 1) := by decide +kernel
theorem dL_law_1079 : decode cL_law 1079 = .ok (.istore 21, 2) := by decide +kernel
theorem dL_law_1081 : decode cL_law 1081 = .ok (.iload 20, 2) := by decide +kernel
theorem dL_law_1083 : decode cL_law 1083 = .ok (.ifCond .eq 20, 3) := by decide +kernel
theorem dL_law_1086 : decode cL_law 1086 = .ok (.aload 11, 2) := by decide +kernel
theorem dL_law_1088 : decode cL_law 1088 = .ok (.aload_n 2, 1) := by decide +kernel
theorem dL_law_1089 : decode cL_law 1089 = .ok (.aload_n 3, 1) := by decide +kernel
theorem dL_law_1090 : decode cL_law 1090 = .ok (.aload 4, 2) := by decide +kernel
theorem dL_law_1092 : decode cL_law 1092 = .ok (.aload 5, 2) := by decide +kernel
theorem dL_law_1094 : decode cL_law 1094 = .ok (.aload 6, 2) := by decide +kernel
theorem dL_law_1096 : decode cL_law 1096 = .ok (.aload 8, 2) := by decide +kernel
theorem dL_law_1098 : decode cL_law 1098 = .ok (.iload 18, 2) := by decide +kernel
theorem dL_law_1100 : decode cL_law 1100 = .ok (.invokestatic 107, 3) := by decide +kernel
theorem dL_law_1103 : decode cL_law 1103 = .ok (.aload 6, 2) := by decide +kernel
theorem dL_law_1105 : decode cL_law 1105 = .ok (.iconst 2, 1) := by decide +kernel
theorem dL_law_1106 : decode cL_law 1106 = .ok (.iload 18, 2) := by decide +kernel
theorem dL_law_1108 : decode cL_law 1108 = .ok (.imul, 1) := by decide +kernel
theorem dL_law_1109 : decode cL_law 1109 = .ok (.iconst 1, 1) := by decide +kernel
theorem dL_law_1110 : decode cL_law 1110 = .ok (.iadd, 1) := by decide +kernel
theorem dL_law_1111 : decode cL_law 1111 = .ok (.iload 20, 2) := by decide +kernel
theorem dL_law_1113 : decode cL_law 1113 = .ok (.ifCond .eq 7, 3) := by decide +kernel
theorem dL_law_1116 : decode cL_law 1116 = .ok (.iconst 1, 1) := by decide +kernel
theorem dL_law_1117 : decode cL_law 1117 = .ok (.goto 4, 3) := by decide +kernel
theorem dL_law_1120 : decode cL_law 1120 = .ok (.iconst 0, 1) := by decide +kernel
theorem dL_law_1121 : decode cL_law 1121 = .ok (.iastore, 1) := by decide +kernel
theorem dL_law_1122 : decode cL_law 1122 = .ok (.aload_n 1, 1) := by decide +kernel
theorem dL_law_1123 : decode cL_law 1123 = .ok (.iload 18, 2) := by decide +kernel
theorem dL_law_1125 : decode cL_law 1125 = .ok (.iload 20, 2) := by decide +kernel
theorem dL_law_1127 : decode cL_law 1127 = .ok (.invokevirtual 111, 3) := by decide +kernel
theorem dL_law_1130 : decode cL_law 1130 = .ok (.iload 21, 2) := by decide +kernel
theorem dL_law_1132 : decode cL_law 1132 = .ok (.if_icmp .ne 7, 3) := by decide +kernel
theorem dL_law_1135 : decode cL_law 1135 = .ok (.iconst 1, 1) := by decide +kernel
theorem dL_law_1136 : decode cL_law 1136 = .ok (.goto 4, 3) := by decide +kernel
theorem dL_law_1139 : decode cL_law 1139 = .ok (.iconst 0, 1) := by decide +kernel
theorem dL_law_1140 : decode cL_law 1140 = .ok (.istore 12, 2) := by decide +kernel
theorem dL_law_1142 : decode cL_law 1142 = .ok (.goto 360, 3) := by decide +kernel
theorem dL_law_1145 : decode cL_law 1145 = .ok (.iload 15, 2) := by decide +kernel
theorem dL_law_1147 : decode cL_law 1147 = .ok (.bipush 17, 2) := by decide +kernel
theorem dL_law_1149 : decode cL_law 1149 = .ok (.if_icmp .ne 96, 3) := by decide +kernel
theorem dL_law_1152 : decode cL_law 1152 = .ok (.iload 16, 2) := by decide +kernel
theorem dL_law_1154 : decode cL_law 1154 = .ok (.iconst 3, 1) := by decide +kernel
theorem dL_law_1155 : decode cL_law 1155 = .ok (.irem, 1) := by decide +kernel
theorem dL_law_1156 : decode cL_law 1156 = .ok (.ifCond .le 7, 3) := by decide +kernel
theorem dL_law_1159 : decode cL_law 1159 = .ok (.iconst 1, 1) := by decide +kernel
theorem dL_law_1160 : decode cL_law 1160 = .ok (.goto 4, 3) := by decide +kernel
theorem dL_law_1163 : decode cL_law 1163 = .ok (.iconst 0, 1) := by decide +kernel
theorem dL_law_1164 : decode cL_law 1164 = .ok (.istore 20, 2) := by decide +kernel
theorem dL_law_1166 : decode cL_law 1166 = .ok (.aload 7, 2) := by decide +kernel
theorem dL_law_1168 : decode cL_law 1168 = .ok (.iload 19, 2) := by decide +kernel
theorem dL_law_1170 : decode cL_law 1170 = .ok (.iaload, 1) := by decide +kernel
theorem dL_law_1171 : decode cL_law 1171 = .ok (.iconst 1, 1) := by decide +kernel
theorem dL_law_1172 : decode cL_law 1172 = .ok (.if_icmp .ne 7, 3) := by decide +kernel
theorem dL_law_1175 : decode cL_law 1175 = .ok (.iconst 1, 1) := by decide +kernel
theorem dL_law_1176 : decode cL_law 1176 = .ok (.goto 4, 3) := by decide +kernel
theorem dL_law_1179 : decode cL_law 1179 = .ok (.iconst 0, 1) := by decide +kernel
theorem dL_law_1180 : decode cL_law 1180 = .ok (.istore 21, 2) := by decide +kernel
theorem dL_law_1182 : decode cL_law 1182 = .ok (.iload 20, 2) := by decide +kernel
theorem dL_law_1184 : decode cL_law 1184 = .ok (.ifCond .eq 23, 3) := by decide +kernel
theorem dL_law_1187 : decode cL_law 1187 = .ok (.iload 21, 2) := by decide +kernel
theorem dL_law_1189 : decode cL_law 1189 = .ok (.ifCond .ne 18, 3) := by decide +kernel
theorem dL_law_1192 : decode cL_law 1192 = .ok (.aload 11, 2) := by decide +kernel
theorem dL_law_1194 : decode cL_law 1194 = .ok (.aload_n 2, 1) := by decide +kernel
theorem dL_law_1195 : decode cL_law 1195 = .ok (.aload_n 3, 1) := by decide +kernel
theorem dL_law_1196 : decode cL_law 1196 = .ok (.aload 4, 2) := by decide +kernel
theorem dL_law_1198 : decode cL_law 1198 = .ok (.aload 5, 2) := by decide +kernel
theorem dL_law_1200 : decode cL_law 1200 = .ok (.aload 7, 2) := by decide +kernel
theorem dL_law_1202 : decode cL_law 1202 = .ok (.iload 19, 2) := by decide +kernel
theorem dL_law_1204 : decode cL_law 1204 = .ok (.invokestatic 114, 3) := by decide +kernel
theorem dL_law_1207 : decode cL_law 1207 = .ok (.aload 7, 2) := by decide +kernel
theorem dL_law_1209 : decode cL_law 1209 = .ok (.iload 19, 2) := by decide +kernel
theorem dL_law_1211 : decode cL_law 1211 = .ok (.iload 20, 2) := by decide +kernel
theorem dL_law_1213 : decode cL_law 1213 = .ok (.ifCond .eq 7, 3) := by decide +kernel
theorem dL_law_1216 : decode cL_law 1216 = .ok (.iconst 1, 1) := by decide +kernel
theorem dL_law_1217 : decode cL_law 1217 = .ok (.goto 4, 3) := by decide +kernel
theorem dL_law_1220 : decode cL_law 1220 = .ok (.iconst 0, 1) := by decide +kernel
theorem dL_law_1221 : decode cL_law 1221 = .ok (.iastore, 1) := by decide +kernel
theorem dL_law_1222 : decode cL_law 1222 = .ok (.aload_n 1, 1) := by decide +kernel
theorem dL_law_1223 : decode cL_law 1223 = .ok (.iload 19, 2) := by decide +kernel
theorem dL_law_1225 : decode cL_law 1225 = .ok (.iload 20, 2) := by decide +kernel
theorem dL_law_1227 : decode cL_law 1227 = .ok (.invokevirtual 118, 3) := by decide +kernel
theorem dL_law_1230 : decode cL_law 1230 = .ok (.iload 21, 2) := by decide +kernel
theorem dL_law_1232 : decode cL_law 1232 = .ok (.if_icmp .ne 7, 3) := by decide +kernel
theorem dL_law_1235 : decode cL_law 1235 = .ok (.iconst 1, 1) := by decide +kernel
theorem dL_law_1236 : decode cL_law 1236 = .ok (.goto 4, 3) := by decide +kernel
theorem dL_law_1239 : decode cL_law 1239 = .ok (.iconst 0, 1) := by decide +kernel
theorem dL_law_1240 : decode cL_law 1240 = .ok (.istore 12, 2) := by decide +kernel
theorem dL_law_1242 : decode cL_law 1242 = .ok (.goto 260, 3) := by decide +kernel
theorem dL_law_1245 : decode cL_law 1245 = .ok (.iload 15, 2) := by decide +kernel
theorem dL_law_1247 : decode cL_law 1247 = .ok (.bipush 20, 2) := by decide +kernel
theorem dL_law_1249 : decode cL_law 1249 = .ok (.if_icmp .ge 143, 3) := by decide +kernel
theorem dL_law_1252 : decode cL_law 1252 = .ok (.iconst 0, 1) := by decide +kernel
theorem dL_law_1253 : decode cL_law 1253 = .ok (.istore 20, 2) := by decide +kernel
theorem dL_law_1255 : decode cL_law 1255 = .ok (.iconst 0, 1) := by decide +kernel
theorem dL_law_1256 : decode cL_law 1256 = .ok (.istore 21, 2) := by decide +kernel
theorem dL_law_1258 : decode cL_law 1258 = .ok (.iload 21, 2) := by decide +kernel
theorem dL_law_1260 : decode cL_law 1260 = .ok (.aload 11, 2) := by decide +kernel
theorem dL_law_1262 : decode cL_law 1262 = .ok (.iconst 1, 1) := by decide +kernel
theorem dL_law_1263 : decode cL_law 1263 = .ok (.iaload, 1) := by decide +kernel
theorem dL_law_1264 : decode cL_law 1264 = .ok (.if_icmp .ge 39, 3) := by decide +kernel
theorem dL_law_1267 : decode cL_law 1267 = .ok (.iload 20, 2) := by decide +kernel
theorem dL_law_1269 : decode cL_law 1269 = .ok (.aload_n 3, 1) := by decide +kernel
theorem dL_law_1270 : decode cL_law 1270 = .ok (.iload 21, 2) := by decide +kernel
theorem dL_law_1272 : decode cL_law 1272 = .ok (.iaload, 1) := by decide +kernel
theorem dL_law_1273 : decode cL_law 1273 = .ok (.iconst 2, 1) := by decide +kernel
theorem dL_law_1274 : decode cL_law 1274 = .ok (.if_icmp .ne 19, 3) := by decide +kernel
theorem dL_law_1277 : decode cL_law 1277 = .ok (.aload 4, 2) := by decide +kernel
theorem dL_law_1279 : decode cL_law 1279 = .ok (.iload 21, 2) := by decide +kernel
theorem dL_law_1281 : decode cL_law 1281 = .ok (.iaload, 1) := by decide +kernel
theorem dL_law_1282 : decode cL_law 1282 = .ok (.iload 18, 2) := by decide +kernel
theorem dL_law_1284 : decode cL_law 1284 = .ok (.iconst 1, 1) := by decide +kernel
theorem dL_law_1285 : decode cL_law 1285 = .ok (.iadd, 1) := by decide +kernel
theorem dL_law_1286 : decode cL_law 1286 = .ok (.if_icmp .ne 7, 3) := by decide +kernel
theorem dL_law_1289 : decode cL_law 1289 = .ok (.iconst 1, 1) := by decide +kernel
theorem dL_law_1290 : decode cL_law 1290 = .ok (.goto 4, 3) := by decide +kernel
theorem dL_law_1293 : decode cL_law 1293 = .ok (.iconst 0, 1) := by decide +kernel
theorem dL_law_1294 : decode cL_law 1294 = .ok (.iadd, 1) := by decide +kernel
theorem dL_law_1295 : decode cL_law 1295 = .ok (.istore 20, 2) := by decide +kernel
theorem dL_law_1297 : decode cL_law 1297 = .ok (.iinc 21 1, 3) := by decide +kernel
theorem dL_law_1300 : decode cL_law 1300 = .ok (.goto (-42), 3) := by decide +kernel
theorem dL_law_1303 : decode cL_law 1303 = .ok (.iload 16, 2) := by decide +kernel
theorem dL_law_1305 : decode cL_law 1305 = .ok (.iconst 2, 1) := by decide +kernel
theorem dL_law_1306 : decode cL_law 1306 = .ok (.irem, 1) := by decide +kernel
theorem dL_law_1307 : decode cL_law 1307 = .ok (.istore 21, 2) := by decide +kernel
theorem dL_law_1309 : decode cL_law 1309 = .ok (.iload 20, 2) := by decide +kernel
theorem dL_law_1311 : decode cL_law 1311 = .ok (.ifCond .le 8, 3) := by decide +kernel
theorem dL_law_1314 : decode cL_law 1314 = .ok (.bipush (-13), 2) := by decide +kernel
theorem dL_law_1316 : decode cL_law 1316 = .ok (.goto 26, 3) := by decide +kernel
theorem dL_law_1319 : decode cL_law 1319 = .ok (.aload 8, 2) := by decide +kernel
theorem dL_law_1321 : decode cL_law 1321 = .ok (.iload 21, 2) := by decide +kernel
theorem dL_law_1323 : decode cL_law 1323 = .ok (.iaload, 1) := by decide +kernel
theorem dL_law_1324 : decode cL_law 1324 = .ok (.iload 18, 2) := by decide +kernel
theorem dL_law_1326 : decode cL_law 1326 = .ok (.iconst 1, 1) := by decide +kernel
theorem dL_law_1327 : decode cL_law 1327 = .ok (.iadd, 1) := by decide +kernel
theorem dL_law_1328 : decode cL_law 1328 = .ok (.if_icmp .ne 7, 3) := by decide +kernel
theorem dL_law_1331 : decode cL_law 1331 = .ok (.iconst (-1), 1) := by decide +kernel
theorem dL_law_1332 : decode cL_law 1332 = .ok (.goto 10, 3) := by decide +kernel
theorem dL_law_1335 : decode cL_law 1335 = .ok (.aload 8, 2) := by decide +kernel
theorem dL_law_1337 : decode cL_law 1337 = .ok (.iload 21, 2) := by decide +kernel
theorem dL_law_1339 : decode cL_law 1339 = .ok (.iaload, 1) := by decide +kernel
theorem dL_law_1340 : decode cL_law 1340 = .ok (.iconst 1, 1) := by decide +kernel
theorem dL_law_1341 : decode cL_law 1341 = .ok (.isub, 1) := by decide +kernel
theorem dL_law_1342 : decode cL_law 1342 = .ok (.istore 22, 2) := by decide +kernel
theorem dL_law_1344 : decode cL_law 1344 = .ok (.iload 20, 2) := by decide +kernel
theorem dL_law_1346 : decode cL_law 1346 = .ok (.ifCond .ne 19, 3) := by decide +kernel
theorem dL_law_1349 : decode cL_law 1349 = .ok (.aload 8, 2) := by decide +kernel
theorem dL_law_1351 : decode cL_law 1351 = .ok (.iload 18, 2) := by decide +kernel
theorem dL_law_1353 : decode cL_law 1353 = .ok (.invokestatic 17, 3) := by decide +kernel
theorem dL_law_1356 : decode cL_law 1356 = .ok (.aload 8, 2) := by decide +kernel
theorem dL_law_1358 : decode cL_law 1358 = .ok (.iload 21, 2) := by decide +kernel
theorem dL_law_1360 : decode cL_law 1360 = .ok (.iload 18, 2) := by decide +kernel
theorem dL_law_1362 : decode cL_law 1362 = .ok (.iconst 1, 1) := by decide +kernel
theorem dL_law_1363 : decode cL_law 1363 = .ok (.iadd, 1) := by decide +kernel
theorem dL_law_1364 : decode cL_law 1364 = .ok (.iastore, 1) := by decide +kernel
theorem dL_law_1365 : decode cL_law 1365 = .ok (.aload_n 1, 1) := by decide +kernel
theorem dL_law_1366 : decode cL_law 1366 = .ok (.iconst 2, 1) := by decide +kernel
theorem dL_law_1367 : decode cL_law 1367 = .ok (.iload 18, 2) := by decide +kernel
theorem dL_law_1369 : decode cL_law 1369 = .ok (.iload 21, 2) := by decide +kernel
theorem dL_law_1371 : decode cL_law 1371 = .ok (.iconst 0, 1) := by decide +kernel
theorem dL_law_1372 : decode cL_law 1372 = .ok (.iconst 0, 1) := by decide +kernel
theorem dL_law_1373 : decode cL_law 1373 = .ok (.iconst 0, 1) := by decide +kernel
theorem dL_law_1374 : decode cL_law 1374 = .ok (.invokestatic 99, 3) := by decide +kernel
theorem dL_law_1377 : decode cL_law 1377 = .ok (.iload 22, 2) := by decide +kernel
theorem dL_law_1379 : decode cL_law 1379 = .ok (.if_icmp .ne 7, 3) := by decide +kernel
theorem dL_law_1382 : decode cL_law 1382 = .ok (.iconst 1, 1) := by decide +kernel
theorem dL_law_1383 : decode cL_law 1383 = .ok (.goto 4, 3) := by decide +kernel
theorem dL_law_1386 : decode cL_law 1386 = .ok (.iconst 0, 1) := by decide +kernel
theorem dL_law_1387 : decode cL_law 1387 = .ok (.istore 12, 2) := by decide +kernel
theorem dL_law_1389 : decode cL_law 1389 = .ok (.goto 113, 3) := by decide +kernel
theorem dL_law_1392 : decode cL_law 1392 = .ok (.iconst 1, 1) := by decide +kernel
theorem dL_law_1393 : decode cL_law 1393 = .ok (.iload 16, 2) := by decide +kernel
theorem dL_law_1395 : decode cL_law 1395 = .ok (.iload 16, 2) := by decide +kernel
theorem dL_law_1397 : decode cL_law 1397 = .ok (.bipush 6, 2) := by decide +kernel
theorem dL_law_1399 : decode cL_law 1399 = .ok (.irem, 1) := by decide +kernel
theorem dL_law_1400 : decode cL_law 1400 = .ok (.ifCond .ne 9, 3) := by decide +kernel
theorem dL_law_1403 : decode cL_law 1403 = .ok (.sipush 1000, 3) := by decide +kernel
theorem dL_law_1406 : decode cL_law 1406 = .ok (.goto 20, 3) := by decide +kernel
theorem dL_law_1409 : decode cL_law 1409 = .ok (.iload 16, 2) := by decide +kernel
theorem dL_law_1411 : decode cL_law 1411 = .ok (.bipush 6, 2) := by decide +kernel
theorem dL_law_1413 : decode cL_law 1413 = .ok (.irem, 1) := by decide +kernel
theorem dL_law_1414 : decode cL_law 1414 = .ok (.iconst 3, 1) := by decide +kernel
theorem dL_law_1415 : decode cL_law 1415 = .ok (.if_icmp .ge 8, 3) := by decide +kernel
theorem dL_law_1418 : decode cL_law 1418 = .ok (.bipush 30, 2) := by decide +kernel
theorem dL_law_1420 : decode cL_law 1420 = .ok (.goto 6, 3) := by decide +kernel
theorem dL_law_1423 : decode cL_law 1423 = .ok (.sipush 150, 3) := by decide +kernel
theorem dL_law_1426 : decode cL_law 1426 = .ok (.irem, 1) := by decide +kernel
theorem dL_law_1427 : decode cL_law 1427 = .ok (.iadd, 1) := by decide +kernel
theorem dL_law_1428 : decode cL_law 1428 = .ok (.istore 20, 2) := by decide +kernel
theorem dL_law_1430 : decode cL_law 1430 = .ok (.aload 11, 2) := by decide +kernel
theorem dL_law_1432 : decode cL_law 1432 = .ok (.iconst 0, 1) := by decide +kernel
theorem dL_law_1433 : decode cL_law 1433 = .ok (.iaload, 1) := by decide +kernel
theorem dL_law_1434 : decode cL_law 1434 = .ok (.iload 20, 2) := by decide +kernel
theorem dL_law_1436 : decode cL_law 1436 = .ok (.iadd, 1) := by decide +kernel
theorem dL_law_1437 : decode cL_law 1437 = .ok (.sipush 30000, 3) := by decide +kernel
theorem dL_law_1440 : decode cL_law 1440 = .ok (.if_icmp .le 8, 3) := by decide +kernel
theorem dL_law_1443 : decode cL_law 1443 = .ok (.bipush (-13), 2) := by decide +kernel
theorem dL_law_1445 : decode cL_law 1445 = .ok (.goto 10, 3) := by decide +kernel
theorem dL_law_1448 : decode cL_law 1448 = .ok (.aload 11, 2) := by decide +kernel
theorem dL_law_1450 : decode cL_law 1450 = .ok (.iconst 0, 1) := by decide +kernel
theorem dL_law_1451 : decode cL_law 1451 = .ok (.iaload, 1) := by decide +kernel
theorem dL_law_1452 : decode cL_law 1452 = .ok (.iload 20, 2) := by decide +kernel
theorem dL_law_1454 : decode cL_law 1454 = .ok (.iadd, 1) := by decide +kernel
theorem dL_law_1455 : decode cL_law 1455 = .ok (.istore 21, 2) := by decide +kernel
theorem dL_law_1457 : decode cL_law 1457 = .ok (.iload 21, 2) := by decide +kernel
theorem dL_law_1459 : decode cL_law 1459 = .ok (.ifCond .le 20, 3) := by decide +kernel
theorem dL_law_1462 : decode cL_law 1462 = .ok (.aload 11, 2) := by decide +kernel
theorem dL_law_1464 : decode cL_law 1464 = .ok (.aload_n 2, 1) := by decide +kernel
theorem dL_law_1465 : decode cL_law 1465 = .ok (.aload_n 3, 1) := by decide +kernel
theorem dL_law_1466 : decode cL_law 1466 = .ok (.aload 4, 2) := by decide +kernel
theorem dL_law_1468 : decode cL_law 1468 = .ok (.aload 5, 2) := by decide +kernel
theorem dL_law_1470 : decode cL_law 1470 = .ok (.aload 6, 2) := by decide +kernel
theorem dL_law_1472 : decode cL_law 1472 = .ok (.aload 8, 2) := by decide +kernel
theorem dL_law_1474 : decode cL_law 1474 = .ok (.iload 21, 2) := by decide +kernel
theorem dL_law_1476 : decode cL_law 1476 = .ok (.invokestatic 120, 3) := by decide +kernel
theorem dL_law_1479 : decode cL_law 1479 = .ok (.aload_n 1, 1) := by decide +kernel
theorem dL_law_1480 : decode cL_law 1480 = .ok (.iconst 3, 1) := by decide +kernel
theorem dL_law_1481 : decode cL_law 1481 = .ok (.iload 20, 2) := by decide +kernel
theorem dL_law_1483 : decode cL_law 1483 = .ok (.iconst 0, 1) := by decide +kernel
theorem dL_law_1484 : decode cL_law 1484 = .ok (.iconst 0, 1) := by decide +kernel
theorem dL_law_1485 : decode cL_law 1485 = .ok (.iconst 0, 1) := by decide +kernel
theorem dL_law_1486 : decode cL_law 1486 = .ok (.iconst 0, 1) := by decide +kernel
theorem dL_law_1487 : decode cL_law 1487 = .ok (.invokestatic 99, 3) := by decide +kernel
theorem dL_law_1490 : decode cL_law 1490 = .ok (.iload 21, 2) := by decide +kernel
theorem dL_law_1492 : decode cL_law 1492 = .ok (.if_icmp .ne 7, 3) := by decide +kernel
theorem dL_law_1495 : decode cL_law 1495 = .ok (.iconst 1, 1) := by decide +kernel
theorem dL_law_1496 : decode cL_law 1496 = .ok (.goto 4, 3) := by decide +kernel
theorem dL_law_1499 : decode cL_law 1499 = .ok (.iconst 0, 1) := by decide +kernel
theorem dL_law_1500 : decode cL_law 1500 = .ok (.istore 12, 2) := by decide +kernel
theorem dL_law_1502 : decode cL_law 1502 = .ok (.iload 12, 2) := by decide +kernel
theorem dL_law_1504 : decode cL_law 1504 = .ok (.ifCond .eq 36, 3) := by decide +kernel
theorem dL_law_1507 : decode cL_law 1507 = .ok (.iload 13, 2) := by decide +kernel
theorem dL_law_1509 : decode cL_law 1509 = .ok (.iconst 3, 1) := by decide +kernel
theorem dL_law_1510 : decode cL_law 1510 = .ok (.irem, 1) := by decide +kernel
theorem dL_law_1511 : decode cL_law 1511 = .ok (.iconst 2, 1) := by decide +kernel
theorem dL_law_1512 : decode cL_law 1512 = .ok (.if_icmp .lt 24, 3) := by decide +kernel
theorem dL_law_1515 : decode cL_law 1515 = .ok (.aload_n 1, 1) := by decide +kernel
theorem dL_law_1516 : decode cL_law 1516 = .ok (.aload 11, 2) := by decide +kernel
theorem dL_law_1518 : decode cL_law 1518 = .ok (.aload_n 2, 1) := by decide +kernel
theorem dL_law_1519 : decode cL_law 1519 = .ok (.aload_n 3, 1) := by decide +kernel
theorem dL_law_1520 : decode cL_law 1520 = .ok (.aload 4, 2) := by decide +kernel
theorem dL_law_1522 : decode cL_law 1522 = .ok (.aload 5, 2) := by decide +kernel
theorem dL_law_1524 : decode cL_law 1524 = .ok (.aload 6, 2) := by decide +kernel
theorem dL_law_1526 : decode cL_law 1526 = .ok (.aload 9, 2) := by decide +kernel
theorem dL_law_1528 : decode cL_law 1528 = .ok (.iload 16, 2) := by decide +kernel
theorem dL_law_1530 : decode cL_law 1530 = .ok (.invokestatic 93, 3) := by decide +kernel
theorem dL_law_1533 : decode cL_law 1533 = .ok (.ifCond .eq 7, 3) := by decide +kernel
theorem dL_law_1536 : decode cL_law 1536 = .ok (.iconst 1, 1) := by decide +kernel
theorem dL_law_1537 : decode cL_law 1537 = .ok (.goto 4, 3) := by decide +kernel
theorem dL_law_1540 : decode cL_law 1540 = .ok (.iconst 0, 1) := by decide +kernel
theorem dL_law_1541 : decode cL_law 1541 = .ok (.istore 12, 2) := by decide +kernel
theorem dL_law_1543 : decode cL_law 1543 = .ok (.iinc 13 1, 3) := by decide +kernel
theorem dL_law_1546 : decode cL_law 1546 = .ok (.goto (-1437), 3) := by decide +kernel
theorem dL_law_1549 : decode cL_law 1549 = .ok (.iload 12, 2) := by decide +kernel
theorem dL_law_1551 : decode cL_law 1551 = .ok (.ifCond .eq 28, 3) := by decide +kernel
theorem dL_law_1554 : decode cL_law 1554 = .ok (.aload_n 1, 1) := by decide +kernel
theorem dL_law_1555 : decode cL_law 1555 = .ok (.aload 11, 2) := by decide +kernel
theorem dL_law_1557 : decode cL_law 1557 = .ok (.aload_n 2, 1) := by decide +kernel
theorem dL_law_1558 : decode cL_law 1558 = .ok (.aload_n 3, 1) := by decide +kernel
theorem dL_law_1559 : decode cL_law 1559 = .ok (.aload 4, 2) := by decide +kernel
theorem dL_law_1561 : decode cL_law 1561 = .ok (.aload 5, 2) := by decide +kernel
theorem dL_law_1563 : decode cL_law 1563 = .ok (.aload 6, 2) := by decide +kernel
theorem dL_law_1565 : decode cL_law 1565 = .ok (.aload 9, 2) := by decide +kernel
theorem dL_law_1567 : decode cL_law 1567 = .ok (.bipush 7, 2) := by decide +kernel
theorem dL_law_1569 : decode cL_law 1569 = .ok (.invokestatic 93, 3) := by decide +kernel
theorem dL_law_1572 : decode cL_law 1572 = .ok (.ifCond .eq 7, 3) := by decide +kernel
theorem dL_law_1575 : decode cL_law 1575 = .ok (.iconst 1, 1) := by decide +kernel
theorem dL_law_1576 : decode cL_law 1576 = .ok (.goto 4, 3) := by decide +kernel
theorem dL_law_1579 : decode cL_law 1579 = .ok (.iconst 0, 1) := by decide +kernel
theorem dL_law_1580 : decode cL_law 1580 = .ok (.ireturn, 1) := by decide +kernel
abbrev vwCl : List vw_C := [(RX0, TX0, 6), (RX1, TX1, 12)]
