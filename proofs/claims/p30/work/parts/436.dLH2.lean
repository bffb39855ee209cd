theorem dL_holds_426 : decode cL_holds 426 = .ok (.ifCond .eq 108, 3) := by decide +kernel
theorem dL_holds_429 : decode cL_holds 429 = .ok (.iload 9, 2) := by decide +kernel
theorem dL_holds_431 : decode cL_holds 431 = .ok (.iload_n 2, 1) := by decide +kernel
theorem dL_holds_432 : decode cL_holds 432 = .ok (.if_icmp .ne 102, 3) := by decide +kernel
theorem dL_holds_435 : decode cL_holds 435 = .ok (.aload_n 0, 1) := by decide +kernel
theorem dL_holds_436 : decode cL_holds 436 = .ok (.iconst 2, 1) := by decide +kernel
theorem dL_holds_437 : decode cL_holds 437 = .ok (.iconst 0, 1) := by decide +kernel
theorem dL_holds_438 : decode cL_holds 438 = .ok (.iconst 0, 1) := by decide +kernel
theorem dL_holds_439 : decode cL_holds 439 = .ok (.iconst 0, 1) := by decide +kernel
theorem dL_holds_440 : decode cL_holds 440 = .ok (.invokestatic 164, 3) := by decide +kernel
theorem dL_holds_443 : decode cL_holds 443 = .ok (.iload_n 3, 1) := by decide +kernel
theorem dL_holds_444 : decode cL_holds 444 = .ok (.if_icmp .ne 90, 3) := by decide +kernel
theorem dL_holds_447 : decode cL_holds 447 = .ok (.aload_n 0, 1) := by decide +kernel
theorem dL_holds_448 : decode cL_holds 448 = .ok (.iconst 2, 1) := by decide +kernel
theorem dL_holds_449 : decode cL_holds 449 = .ok (.iconst 1, 1) := by decide +kernel
theorem dL_holds_450 : decode cL_holds 450 = .ok (.iconst 0, 1) := by decide +kernel
theorem dL_holds_451 : decode cL_holds 451 = .ok (.iconst 0, 1) := by decide +kernel
theorem dL_holds_452 : decode cL_holds 452 = .ok (.invokestatic 164, 3) := by decide +kernel
theorem dL_holds_455 : decode cL_holds 455 = .ok (.iload 4, 2) := by decide +kernel
theorem dL_holds_457 : decode cL_holds 457 = .ok (.if_icmp .ne 77, 3) := by decide +kernel
theorem dL_holds_460 : decode cL_holds 460 = .ok (.aload_n 0, 1) := by decide +kernel
theorem dL_holds_461 : decode cL_holds 461 = .ok (.iconst 2, 1) := by decide +kernel
theorem dL_holds_462 : decode cL_holds 462 = .ok (.iconst 3, 1) := by decide +kernel
theorem dL_holds_463 : decode cL_holds 463 = .ok (.iconst 0, 1) := by decide +kernel
theorem dL_holds_464 : decode cL_holds 464 = .ok (.iconst 0, 1) := by decide +kernel
theorem dL_holds_465 : decode cL_holds 465 = .ok (.invokestatic 164, 3) := by decide +kernel
theorem dL_holds_468 : decode cL_holds 468 = .ok (.iload 5, 2) := by decide +kernel
theorem dL_holds_470 : decode cL_holds 470 = .ok (.if_icmp .ne 64, 3) := by decide +kernel
theorem dL_holds_473 : decode cL_holds 473 = .ok (.iload 11, 2) := by decide +kernel
theorem dL_holds_475 : decode cL_holds 475 = .ok (.iload 5, 2) := by decide +kernel
theorem dL_holds_477 : decode cL_holds 477 = .ok (.if_icmp .ne 57, 3) := by decide +kernel
theorem dL_holds_480 : decode cL_holds 480 = .ok (.aload_n 0, 1) := by decide +kernel
theorem dL_holds_481 : decode cL_holds 481 = .ok (.iconst 2, 1) := by decide +kernel
theorem dL_holds_482 : decode cL_holds 482 = .ok (.bipush 9, 2) := by decide +kernel
theorem dL_holds_484 : decode cL_holds 484 = .ok (.iconst 0, 1) := by decide +kernel
theorem dL_holds_485 : decode cL_holds 485 = .ok (.iconst 0, 1) := by decide +kernel
theorem dL_holds_486 : decode cL_holds 486 = .ok (.invokestatic 164, 3) := by decide +kernel
theorem dL_holds_489 : decode cL_holds 489 = .ok (.iload 7, 2) := by decide +kernel
theorem dL_holds_491 : decode cL_holds 491 = .ok (.if_icmp .ne 43, 3) := by decide +kernel
theorem dL_holds_494 : decode cL_holds 494 = .ok (.aload_n 0, 1) := by decide +kernel
theorem dL_holds_495 : decode cL_holds 495 = .ok (.iconst 2, 1) := by decide +kernel
theorem dL_holds_496 : decode cL_holds 496 = .ok (.bipush 10, 2) := by decide +kernel
theorem dL_holds_498 : decode cL_holds 498 = .ok (.iconst 0, 1) := by decide +kernel
theorem dL_holds_499 : decode cL_holds 499 = .ok (.iconst 0, 1) := by decide +kernel
theorem dL_holds_500 : decode cL_holds 500 = .ok (.invokestatic 164, 3) := by decide +kernel
theorem dL_holds_503 : decode cL_holds 503 = .ok (.iload 6, 2) := by decide +kernel
theorem dL_holds_505 : decode cL_holds 505 = .ok (.if_icmp .ne 29, 3) := by decide +kernel
theorem dL_holds_508 : decode cL_holds 508 = .ok (.aload_n 0, 1) := by decide +kernel
theorem dL_holds_509 : decode cL_holds 509 = .ok (.invokevirtual 178, 3) := by decide +kernel
theorem dL_holds_512 : decode cL_holds 512 = .ok (.iload 5, 2) := by decide +kernel
theorem dL_holds_514 : decode cL_holds 514 = .ok (.iload 12, 2) := by decide +kernel
theorem dL_holds_516 : decode cL_holds 516 = .ok (.aload_n 0, 1) := by decide +kernel
theorem dL_holds_517 : decode cL_holds 517 = .ok (.bipush 6, 2) := by decide +kernel
theorem dL_holds_519 : decode cL_holds 519 = .ok (.iconst 0, 1) := by decide +kernel
theorem dL_holds_520 : decode cL_holds 520 = .ok (.iconst 0, 1) := by decide +kernel
theorem dL_holds_521 : decode cL_holds 521 = .ok (.iconst 0, 1) := by decide +kernel
theorem dL_holds_522 : decode cL_holds 522 = .ok (.invokestatic 164, 3) := by decide +kernel
theorem dL_holds_525 : decode cL_holds 525 = .ok (.ishl, 1) := by decide +kernel
theorem dL_holds_526 : decode cL_holds 526 = .ok (.isub, 1) := by decide +kernel
theorem dL_holds_527 : decode cL_holds 527 = .ok (.if_icmp .ne 7, 3) := by decide +kernel
theorem dL_holds_530 : decode cL_holds 530 = .ok (.iconst 1, 1) := by decide +kernel
theorem dL_holds_531 : decode cL_holds 531 = .ok (.goto 4, 3) := by decide +kernel
theorem dL_holds_534 : decode cL_holds 534 = .ok (.iconst 0, 1) := by decide +kernel
theorem dL_holds_535 : decode cL_holds 535 = .ok (.istore 10, 2) := by decide +kernel
theorem dL_holds_537 : decode cL_holds 537 = .ok (.aload_n 0, 1) := by decide +kernel
theorem dL_holds_538 : decode cL_holds 538 = .ok (.bipush 14, 2) := by decide +kernel
theorem dL_holds_540 : decode cL_holds 540 = .ok (.iconst 0, 1) := by decide +kernel
theorem dL_holds_541 : decode cL_holds 541 = .ok (.iconst 0, 1) := by decide +kernel
theorem dL_holds_542 : decode cL_holds 542 = .ok (.iconst 0, 1) := by decide +kernel
theorem dL_holds_543 : decode cL_holds 543 = .ok (.invokestatic 164, 3) := by decide +kernel
theorem dL_holds_546 : decode cL_holds 546 = .ok (.istore 13, 2) := by decide +kernel
theorem dL_holds_548 : decode cL_holds 548 = .ok (.aload_n 0, 1) := by decide +kernel
theorem dL_holds_549 : decode cL_holds 549 = .ok (.bipush 14, 2) := by decide +kernel
theorem dL_holds_551 : decode cL_holds 551 = .ok (.iconst 2, 1) := by decide +kernel
theorem dL_holds_552 : decode cL_holds 552 = .ok (.iconst 0, 1) := by decide +kernel
theorem dL_holds_553 : decode cL_holds 553 = .ok (.iconst 0, 1) := by decide +kernel
theorem dL_holds_554 : decode cL_holds 554 = .ok (.invokestatic 164, 3) := by decide +kernel
theorem dL_holds_557 : decode cL_holds 557 = .ok (.istore 14, 2) := by decide +kernel
theorem dL_holds_559 : decode cL_holds 559 = .ok (.aload_n 0, 1) := by decide +kernel
theorem dL_holds_560 : decode cL_holds 560 = .ok (.bipush 14, 2) := by decide +kernel
theorem dL_holds_562 : decode cL_holds 562 = .ok (.iconst 1, 1) := by decide +kernel
theorem dL_holds_563 : decode cL_holds 563 = .ok (.iconst 0, 1) := by decide +kernel
theorem dL_holds_564 : decode cL_holds 564 = .ok (.iconst 0, 1) := by decide +kernel
theorem dL_holds_565 : decode cL_holds 565 = .ok (.invokestatic 164, 3) := by decide +kernel
theorem dL_holds_568 : decode cL_holds 568 = .ok (.istore 15, 2) := by decide +kernel
theorem dL_holds_570 : decode cL_holds 570 = .ok (.aload_n 0, 1) := by decide +kernel
theorem dL_holds_571 : decode cL_holds 571 = .ok (.iconst 2, 1) := by decide +kernel
theorem dL_holds_572 : decode cL_holds 572 = .ok (.iconst 4, 1) := by decide +kernel
theorem dL_holds_573 : decode cL_holds 573 = .ok (.iconst 0, 1) := by decide +kernel
theorem dL_holds_574 : decode cL_holds 574 = .ok (.iconst 0, 1) := by decide +kernel
theorem dL_holds_575 : decode cL_holds 575 = .ok (.invokestatic 164, 3) := by decide +kernel
theorem dL_holds_578 : decode cL_holds 578 = .ok (.istore 16, 2) := by decide +kernel
theorem dL_holds_580 : decode cL_holds 580 = .ok (.iload 10, 2) := by decide +kernel
theorem dL_holds_582 : decode cL_holds 582 = .ok (.ifCond .eq 182, 3) := by decide +kernel
theorem dL_holds_585 : decode cL_holds 585 = .ok (.iload 13, 2) := by decide +kernel
theorem dL_holds_587 : decode cL_holds 587 = .ok (.iconst (-1), 1) := by decide +kernel
theorem dL_holds_588 : decode cL_holds 588 = .ok (.if_icmp .ne 7, 3) := by decide +kernel
theorem dL_holds_591 : decode cL_holds 591 = .ok (.iconst 1, 1) := by decide +kernel
theorem dL_holds_592 : decode cL_holds 592 = .ok (.goto 4, 3) := by decide +kernel
theorem dL_holds_595 : decode cL_holds 595 = .ok (.iconst 0, 1) := by decide +kernel
theorem dL_holds_596 : decode cL_holds 596 = .ok (.iload 14, 2) := by decide +kernel
theorem dL_holds_598 : decode cL_holds 598 = .ok (.iconst (-1), 1) := by decide +kernel
theorem dL_holds_599 : decode cL_holds 599 = .ok (.if_icmp .ne 7, 3) := by decide +kernel
theorem dL_holds_602 : decode cL_holds 602 = .ok (.iconst 1, 1) := by decide +kernel
theorem dL_holds_603 : decode cL_holds 603 = .ok (.goto 4, 3) := by decide +kernel
theorem dL_holds_606 : decode cL_holds 606 = .ok (.iconst 0, 1) := by decide +kernel
theorem dL_holds_607 : decode cL_holds 607 = .ok (.if_icmp .ne 157, 3) := by decide +kernel
theorem dL_holds_610 : decode cL_holds 610 = .ok (.iload 13, 2) := by decide +kernel
theorem dL_holds_612 : decode cL_holds 612 = .ok (.iconst (-1), 1) := by decide +kernel
theorem dL_holds_613 : decode cL_holds 613 = .ok (.if_icmp .ne 7, 3) := by decide +kernel
theorem dL_holds_616 : decode cL_holds 616 = .ok (.iconst 1, 1) := by decide +kernel
theorem dL_holds_617 : decode cL_holds 617 = .ok (.goto 4, 3) := by decide +kernel
theorem dL_holds_620 : decode cL_holds 620 = .ok (.iconst 0, 1) := by decide +kernel
theorem dL_holds_621 : decode cL_holds 621 = .ok (.iload 15, 2) := by decide +kernel
theorem dL_holds_623 : decode cL_holds 623 = .ok (.iconst (-1), 1) := by decide +kernel
theorem dL_holds_624 : decode cL_holds 624 = .ok (.if_icmp .ne 7, 3) := by decide +kernel
theorem dL_holds_627 : decode cL_holds 627 = .ok (.iconst 1, 1) := by decide +kernel
theorem dL_holds_628 : decode cL_holds 628 = .ok (.goto 4, 3) := by decide +kernel
theorem dL_holds_631 : decode cL_holds 631 = .ok (.iconst 0, 1) := by decide +kernel
theorem dL_holds_632 : decode cL_holds 632 = .ok (.if_icmp .ne 132, 3) := by decide +kernel
theorem dL_holds_635 : decode cL_holds 635 = .ok (.iload 13, 2) := by decide +kernel
theorem dL_holds_637 : decode cL_holds 637 = .ok (.iconst (-1), 1) := by decide +kernel
theorem dL_holds_638 : decode cL_holds 638 = .ok (.if_icmp .ne 19, 3) := by decide +kernel
theorem dL_holds_641 : decode cL_holds 641 = .ok (.aload_n 0, 1) := by decide +kernel
theorem dL_holds_642 : decode cL_holds 642 = .ok (.bipush 16, 2) := by decide +kernel
theorem dL_holds_644 : decode cL_holds 644 = .ok (.bipush 100, 2) := by decide +kernel
theorem dL_holds_646 : decode cL_holds 646 = .ok (.iconst 1, 1) := by decide +kernel
theorem dL_holds_647 : decode cL_holds 647 = .ok (.iconst 0, 1) := by decide +kernel
theorem dL_holds_648 : decode cL_holds 648 = .ok (.invokestatic 164, 3) := by decide +kernel
theorem dL_holds_651 : decode cL_holds 651 = .ok (.ifCond .ne 113, 3) := by decide +kernel
theorem dL_holds_654 : decode cL_holds 654 = .ok (.goto 106, 3) := by decide +kernel
theorem dL_holds_657 : decode cL_holds 657 = .ok (.iload 14, 2) := by decide +kernel
theorem dL_holds_659 : decode cL_holds 659 = .ok (.iload 16, 2) := by decide +kernel
theorem dL_holds_661 : decode cL_holds 661 = .ok (.if_icmp .lt 103, 3) := by decide +kernel
theorem dL_holds_664 : decode cL_holds 664 = .ok (.iload 14, 2) := by decide +kernel
theorem dL_holds_666 : decode cL_holds 666 = .ok (.iload 16, 2) := by decide +kernel
theorem dL_holds_668 : decode cL_holds 668 = .ok (.bipush 100, 2) := by decide +kernel
theorem dL_holds_670 : decode cL_holds 670 = .ok (.iadd, 1) := by decide +kernel
theorem dL_holds_671 : decode cL_holds 671 = .ok (.if_icmp .ge 93, 3) := by decide +kernel
theorem dL_holds_674 : decode cL_holds 674 = .ok (.aload_n 0, 1) := by decide +kernel
theorem dL_holds_675 : decode cL_holds 675 = .ok (.bipush 15, 2) := by decide +kernel
theorem dL_holds_677 : decode cL_holds 677 = .ok (.iload 13, 2) := by decide +kernel
theorem dL_holds_679 : decode cL_holds 679 = .ok (.iconst 0, 1) := by decide +kernel
theorem dL_holds_680 : decode cL_holds 680 = .ok (.iconst 0, 1) := by decide +kernel
theorem dL_holds_681 : decode cL_holds 681 = .ok (.invokestatic 164, 3) := by decide +kernel
theorem dL_holds_684 : decode cL_holds 684 = .ok (.iload 14, 2) := by decide +kernel
theorem dL_holds_686 : decode cL_holds 686 = .ok (.iload 16, 2) := by decide +kernel
theorem dL_holds_688 : decode cL_holds 688 = .ok (.isub, 1) := by decide +kernel
theorem dL_holds_689 : decode cL_holds 689 = .ok (.iconst 1, 1) := by decide +kernel
theorem dL_holds_690 : decode cL_holds 690 = .ok (.iadd, 1) := by decide +kernel
theorem dL_holds_691 : decode cL_holds 691 = .ok (.if_icmp .ne 73, 3) := by decide +kernel
theorem dL_holds_694 : decode cL_holds 694 = .ok (.aload_n 0, 1) := by decide +kernel
theorem dL_holds_695 : decode cL_holds 695 = .ok (.bipush 15, 2) := by decide +kernel
theorem dL_holds_697 : decode cL_holds 697 = .ok (.iload 13, 2) := by decide +kernel
theorem dL_holds_699 : decode cL_holds 699 = .ok (.iload 15, 2) := by decide +kernel
theorem dL_holds_701 : decode cL_holds 701 = .ok (.iadd, 1) := by decide +kernel
theorem dL_holds_702 : decode cL_holds 702 = .ok (.iconst 1, 1) := by decide +kernel
theorem dL_holds_703 : decode cL_holds 703 = .ok (.isub, 1) := by decide +kernel
theorem dL_holds_704 : decode cL_holds 704 = .ok (.iconst 0, 1) := by decide +kernel
theorem dL_holds_705 : decode cL_holds 705 = .ok (.iconst 0, 1) := by decide +kernel
theorem dL_holds_706 : decode cL_holds 706 = .ok (.invokestatic 164, 3) := by decide +kernel
theorem dL_holds_709 : decode cL_holds 709 = .ok (.iload 14, 2) := by decide +kernel
theorem dL_holds_711 : decode cL_holds 711 = .ok (.iload 16, 2) := by decide +kernel
theorem dL_holds_713 : decode cL_holds 713 = .ok (.isub, 1) := by decide +kernel
theorem dL_holds_714 : decode cL_holds 714 = .ok (.iconst 1, 1) := by decide +kernel
theorem dL_holds_715 : decode cL_holds 715 = .ok (.iadd, 1) := by decide +kernel
theorem dL_holds_716 : decode cL_holds 716 = .ok (.if_icmp .ne 48, 3) := by decide +kernel
theorem dL_holds_719 : decode cL_holds 719 = .ok (.aload_n 0, 1) := by decide +kernel
theorem dL_holds_720 : decode cL_holds 720 = .ok (.bipush 16, 2) := by decide +kernel
theorem dL_holds_722 : decode cL_holds 722 = .ok (.iload 14, 2) := by decide +kernel
theorem dL_holds_724 : decode cL_holds 724 = .ok (.iload 16, 2) := by decide +kernel
theorem dL_holds_726 : decode cL_holds 726 = .ok (.isub, 1) := by decide +kernel
theorem dL_holds_727 : decode cL_holds 727 = .ok (.iconst 1, 1) := by decide +kernel
theorem dL_holds_728 : decode cL_holds 728 = .ok (.iadd, 1) := by decide +kernel
theorem dL_holds_729 : decode cL_holds 729 = .ok (.iconst 1, 1) := by decide +kernel
theorem dL_holds_730 : decode cL_holds 730 = .ok (.iconst 0, 1) := by decide +kernel
theorem dL_holds_731 : decode cL_holds 731 = .ok (.invokestatic 164, 3) := by decide +kernel
theorem dL_holds_734 : decode cL_holds 734 = .ok (.ifCond .le 30, 3) := by decide +kernel
theorem dL_holds_737 : decode cL_holds 737 = .ok (.iload 14, 2) := by decide +kernel
theorem dL_holds_739 : decode cL_holds 739 = .ok (.iload 16, 2) := by decide +kernel
theorem dL_holds_741 : decode cL_holds 741 = .ok (.if_icmp .eq 19, 3) := by decide +kernel
theorem dL_holds_744 : decode cL_holds 744 = .ok (.aload_n 0, 1) := by decide +kernel
theorem dL_holds_745 : decode cL_holds 745 = .ok (.bipush 16, 2) := by decide +kernel
theorem dL_holds_747 : decode cL_holds 747 = .ok (.iload 14, 2) := by decide +kernel
theorem dL_holds_749 : decode cL_holds 749 = .ok (.iload 16, 2) := by decide +kernel
theorem dL_holds_751 : decode cL_holds 751 = .ok (.isub, 1) := by decide +kernel
theorem dL_holds_752 : decode cL_holds 752 = .ok (.iconst 1, 1) := by decide +kernel
theorem dL_holds_753 : decode cL_holds 753 = .ok (.iconst 0, 1) := by decide +kernel
theorem dL_holds_754 : decode cL_holds 754 = .ok (.invokestatic 164, 3) := by decide +kernel
theorem dL_holds_757 : decode cL_holds 757 = .ok (.ifCond .ne 7, 3) := by decide +kernel
theorem dL_holds_760 : decode cL_holds 760 = .ok (.iconst 1, 1) := by decide +kernel
theorem dL_holds_761 : decode cL_holds 761 = .ok (.goto 4, 3) := by decide +kernel
theorem dL_holds_764 : decode cL_holds 764 = .ok (.iconst 0, 1) := by decide +kernel
theorem dL_holds_765 : decode cL_holds 765 = .ok (.istore 10, 2) := by decide +kernel
theorem dL_holds_767 : decode cL_holds 767 = .ok (.iload_n 1, 1) := by decide +kernel
theorem dL_holds_768 : decode cL_holds 768 = .ok (.sipush 256, 3) := by decide +kernel
theorem dL_holds_771 : decode cL_holds 771 = .ok (.irem, 1) := by decide +kernel
theorem dL_holds_772 : decode cL_holds 772 = .ok (.istore 17, 2) := by decide +kernel
theorem dL_holds_774 : decode cL_holds 774 = .ok (.iload 10, 2) := by decide +kernel
theorem dL_holds_776 : decode cL_holds 776 = .ok (.ifCond .eq 84, 3) := by decide +kernel
theorem dL_holds_779 : decode cL_holds 779 = .ok (.aload_n 0, 1) := by decide +kernel
theorem dL_holds_780 : decode cL_holds 780 = .ok (.bipush 15, 2) := by decide +kernel
theorem dL_holds_782 : decode cL_holds 782 = .ok (.iload 17, 2) := by decide +kernel
theorem dL_holds_784 : decode cL_holds 784 = .ok (.iconst 0, 1) := by decide +kernel
theorem dL_holds_785 : decode cL_holds 785 = .ok (.iconst 0, 1) := by decide +kernel
theorem dL_holds_786 : decode cL_holds 786 = .ok (.invokestatic 164, 3) := by decide +kernel
theorem dL_holds_789 : decode cL_holds 789 = .ok (.ifCond .ne 7, 3) := by decide +kernel
theorem dL_holds_792 : decode cL_holds 792 = .ok (.iconst 1, 1) := by decide +kernel
theorem dL_holds_793 : decode cL_holds 793 = .ok (.goto 4, 3) := by decide +kernel
theorem dL_holds_796 : decode cL_holds 796 = .ok (.iconst 0, 1) := by decide +kernel
theorem dL_holds_797 : decode cL_holds 797 = .ok (.aload_n 0, 1) := by decide +kernel
theorem dL_holds_798 : decode cL_holds 798 = .ok (.iconst 3, 1) := by decide +kernel
theorem dL_holds_799 : decode cL_holds 799 = .ok (.iload 17, 2) := by decide +kernel
theorem dL_holds_801 : decode cL_holds 801 = .ok (.iconst 1, 1) := by decide +kernel
theorem dL_holds_802 : decode cL_holds 802 = .ok (.iconst 0, 1) := by decide +kernel
theorem dL_holds_803 : decode cL_holds 803 = .ok (.invokestatic 164, 3) := by decide +kernel
theorem dL_holds_806 : decode cL_holds 806 = .ok (.ifCond .ne 7, 3) := by decide +kernel
theorem dL_holds_809 : decode cL_holds 809 = .ok (.iconst 1, 1) := by decide +kernel
theorem dL_holds_810 : decode cL_holds 810 = .ok (.goto 4, 3) := by decide +kernel
theorem dL_holds_813 : decode cL_holds 813 = .ok (.iconst 0, 1) := by decide +kernel
theorem dL_holds_814 : decode cL_holds 814 = .ok (.if_icmp .ne 46, 3) := by decide +kernel
theorem dL_holds_817 : decode cL_holds 817 = .ok (.aload_n 0, 1) := by decide +kernel
theorem dL_holds_818 : decode cL_holds 818 = .ok (.iconst 3, 1) := by decide +kernel
theorem dL_holds_819 : decode cL_holds 819 = .ok (.iload 17, 2) := by decide +kernel
theorem dL_holds_821 : decode cL_holds 821 = .ok (.iconst 2, 1) := by decide +kernel
theorem dL_holds_822 : decode cL_holds 822 = .ok (.iconst 0, 1) := by decide +kernel
theorem dL_holds_823 : decode cL_holds 823 = .ok (.invokestatic 164, 3) := by decide +kernel
theorem dL_holds_826 : decode cL_holds 826 = .ok (.iconst (-1), 1) := by decide +kernel
theorem dL_holds_827 : decode cL_holds 827 = .ok (.if_icmp .ne 29, 3) := by decide +kernel
theorem dL_holds_830 : decode cL_holds 830 = .ok (.aload_n 0, 1) := by decide +kernel
theorem dL_holds_831 : decode cL_holds 831 = .ok (.iconst 3, 1) := by decide +kernel
theorem dL_holds_832 : decode cL_holds 832 = .ok (.iload 17, 2) := by decide +kernel
theorem dL_holds_834 : decode cL_holds 834 = .ok (.iconst 1, 1) := by decide +kernel
theorem dL_holds_835 : decode cL_holds 835 = .ok (.iconst 0, 1) := by decide +kernel
theorem dL_holds_836 : decode cL_holds 836 = .ok (.invokestatic 164, 3) := by decide +kernel
theorem dL_holds_839 : decode cL_holds 839 = .ok (.ifCond .eq 17, 3) := by decide +kernel
theorem dL_holds_842 : decode cL_holds 842 = .ok (.aload_n 0, 1) := by decide +kernel
theorem dL_holds_843 : decode cL_holds 843 = .ok (.bipush 15, 2) := by decide +kernel
theorem dL_holds_845 : decode cL_holds 845 = .ok (.iload 17, 2) := by decide +kernel
theorem dL_holds_847 : decode cL_holds 847 = .ok (.iconst 0, 1) := by decide +kernel
theorem dL_holds_848 : decode cL_holds 848 = .ok (.iconst 0, 1) := by decide +kernel
theorem dL_holds_849 : decode cL_holds 849 = .ok (.invokestatic 164, 3) := by decide +kernel
theorem dL_holds_852 : decode cL_holds 852 = .ok (.iconst (-1), 1) := by decide +kernel
theorem dL_holds_853 : decode cL_holds 853 = .ok (.if_icmp .ne 7, 3) := by decide +kernel
theorem dL_holds_856 : decode cL_holds 856 = .ok (.iconst 1, 1) := by decide +kernel
theorem dL_holds_857 : decode cL_holds 857 = .ok (.goto 4, 3) := by decide +kernel
theorem dL_holds_860 : decode cL_holds 860 = .ok (.iconst 0, 1) := by decide +kernel
theorem dL_holds_861 : decode cL_holds 861 = .ok (.ireturn, 1) := by decide +kernel
