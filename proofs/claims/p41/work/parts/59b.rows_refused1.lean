theorem dL_refused_416 : decode cL_refused 416 = .ok (.ifCond .eq 7, 3) := by decide +kernel
theorem dL_refused_419 : decode cL_refused 419 = .ok (.iconst 1, 1) := by decide +kernel
theorem dL_refused_420 : decode cL_refused 420 = .ok (.goto 4, 3) := by decide +kernel
theorem dL_refused_423 : decode cL_refused 423 = .ok (.iconst 0, 1) := by decide +kernel
theorem dL_refused_424 : decode cL_refused 424 = .ok (.istore 5, 2) := by decide +kernel
theorem dL_refused_426 : decode cL_refused 426 = .ok (.iload 5, 2) := by decide +kernel
theorem dL_refused_428 : decode cL_refused 428 = .ok (.ifCond .eq 353, 3) := by decide +kernel
theorem dL_refused_431 : decode cL_refused 431 = .ok (.aload_n 0, 1) := by decide +kernel
theorem dL_refused_432 : decode cL_refused 432 = .ok (.iload_n 3, 1) := by decide +kernel
theorem dL_refused_433 : decode cL_refused 433 = .ok (.iconst 1, 1) := by decide +kernel
theorem dL_refused_434 : decode cL_refused 434 = .ok (.invokestatic 206, 3) := by decide +kernel
theorem dL_refused_437 : decode cL_refused 437 = .ok (.sipush (-1001), 3) := by decide +kernel
theorem dL_refused_440 : decode cL_refused 440 = .ok (.if_icmp .ne 341, 3) := by decide +kernel
theorem dL_refused_443 : decode cL_refused 443 = .ok (.aload_n 0, 1) := by decide +kernel
theorem dL_refused_444 : decode cL_refused 444 = .ok (.iconst (-1), 1) := by decide +kernel
theorem dL_refused_445 : decode cL_refused 445 = .ok (.iconst 0, 1) := by decide +kernel
theorem dL_refused_446 : decode cL_refused 446 = .ok (.invokestatic 206, 3) := by decide +kernel
theorem dL_refused_449 : decode cL_refused 449 = .ok (.sipush (-1001), 3) := by decide +kernel
theorem dL_refused_452 : decode cL_refused 452 = .ok (.if_icmp .ne 329, 3) := by decide +kernel
theorem dL_refused_455 : decode cL_refused 455 = .ok (.aload_n 0, 1) := by decide +kernel
theorem dL_refused_456 : decode cL_refused 456 = .ok (.iload 4, 2) := by decide +kernel
theorem dL_refused_458 : decode cL_refused 458 = .ok (.bipush 9, 2) := by decide +kernel
theorem dL_refused_460 : decode cL_refused 460 = .ok (.invokestatic 209, 3) := by decide +kernel
theorem dL_refused_463 : decode cL_refused 463 = .ok (.sipush (-1001), 3) := by decide +kernel
theorem dL_refused_466 : decode cL_refused 466 = .ok (.if_icmp .ne 315, 3) := by decide +kernel
theorem dL_refused_469 : decode cL_refused 469 = .ok (.aload_n 0, 1) := by decide +kernel
theorem dL_refused_470 : decode cL_refused 470 = .ok (.iconst 0, 1) := by decide +kernel
theorem dL_refused_471 : decode cL_refused 471 = .ok (.bipush 6, 2) := by decide +kernel
theorem dL_refused_473 : decode cL_refused 473 = .ok (.invokestatic 209, 3) := by decide +kernel
theorem dL_refused_476 : decode cL_refused 476 = .ok (.sipush (-1002), 3) := by decide +kernel
theorem dL_refused_479 : decode cL_refused 479 = .ok (.if_icmp .ne 302, 3) := by decide +kernel
theorem dL_refused_482 : decode cL_refused 482 = .ok (.aload_n 0, 1) := by decide +kernel
theorem dL_refused_483 : decode cL_refused 483 = .ok (.iconst 0, 1) := by decide +kernel
theorem dL_refused_484 : decode cL_refused 484 = .ok (.iconst (-1), 1) := by decide +kernel
theorem dL_refused_485 : decode cL_refused 485 = .ok (.invokestatic 209, 3) := by decide +kernel
theorem dL_refused_488 : decode cL_refused 488 = .ok (.sipush (-1002), 3) := by decide +kernel
theorem dL_refused_491 : decode cL_refused 491 = .ok (.if_icmp .ne 290, 3) := by decide +kernel
theorem dL_refused_494 : decode cL_refused 494 = .ok (.aload_n 0, 1) := by decide +kernel
theorem dL_refused_495 : decode cL_refused 495 = .ok (.bipush 8, 2) := by decide +kernel
theorem dL_refused_497 : decode cL_refused 497 = .ok (.bipush 9, 2) := by decide +kernel
theorem dL_refused_499 : decode cL_refused 499 = .ok (.invokestatic 227, 3) := by decide +kernel
theorem dL_refused_502 : decode cL_refused 502 = .ok (.sipush (-1001), 3) := by decide +kernel
theorem dL_refused_505 : decode cL_refused 505 = .ok (.if_icmp .ne 276, 3) := by decide +kernel
theorem dL_refused_508 : decode cL_refused 508 = .ok (.aload_n 0, 1) := by decide +kernel
theorem dL_refused_509 : decode cL_refused 509 = .ok (.iconst 0, 1) := by decide +kernel
theorem dL_refused_510 : decode cL_refused 510 = .ok (.iconst 4, 1) := by decide +kernel
theorem dL_refused_511 : decode cL_refused 511 = .ok (.invokestatic 227, 3) := by decide +kernel
theorem dL_refused_514 : decode cL_refused 514 = .ok (.sipush (-1002), 3) := by decide +kernel
theorem dL_refused_517 : decode cL_refused 517 = .ok (.if_icmp .ne 264, 3) := by decide +kernel
theorem dL_refused_520 : decode cL_refused 520 = .ok (.aload_n 0, 1) := by decide +kernel
theorem dL_refused_521 : decode cL_refused 521 = .ok (.iconst (-1), 1) := by decide +kernel
theorem dL_refused_522 : decode cL_refused 522 = .ok (.iconst 0, 1) := by decide +kernel
theorem dL_refused_523 : decode cL_refused 523 = .ok (.invokestatic 227, 3) := by decide +kernel
theorem dL_refused_526 : decode cL_refused 526 = .ok (.sipush (-1001), 3) := by decide +kernel
theorem dL_refused_529 : decode cL_refused 529 = .ok (.if_icmp .ne 252, 3) := by decide +kernel
theorem dL_refused_532 : decode cL_refused 532 = .ok (.aload_n 0, 1) := by decide +kernel
theorem dL_refused_533 : decode cL_refused 533 = .ok (.iload 4, 2) := by decide +kernel
theorem dL_refused_535 : decode cL_refused 535 = .ok (.invokestatic 211, 3) := by decide +kernel
theorem dL_refused_538 : decode cL_refused 538 = .ok (.sipush (-1001), 3) := by decide +kernel
theorem dL_refused_541 : decode cL_refused 541 = .ok (.if_icmp .ne 240, 3) := by decide +kernel
theorem dL_refused_544 : decode cL_refused 544 = .ok (.aload_n 0, 1) := by decide +kernel
theorem dL_refused_545 : decode cL_refused 545 = .ok (.iconst (-1), 1) := by decide +kernel
theorem dL_refused_546 : decode cL_refused 546 = .ok (.invokestatic 213, 3) := by decide +kernel
theorem dL_refused_549 : decode cL_refused 549 = .ok (.sipush (-1001), 3) := by decide +kernel
theorem dL_refused_552 : decode cL_refused 552 = .ok (.if_icmp .ne 229, 3) := by decide +kernel
theorem dL_refused_555 : decode cL_refused 555 = .ok (.aload_n 0, 1) := by decide +kernel
theorem dL_refused_556 : decode cL_refused 556 = .ok (.iload 4, 2) := by decide +kernel
theorem dL_refused_558 : decode cL_refused 558 = .ok (.invokestatic 215, 3) := by decide +kernel
theorem dL_refused_561 : decode cL_refused 561 = .ok (.sipush (-1001), 3) := by decide +kernel
theorem dL_refused_564 : decode cL_refused 564 = .ok (.if_icmp .ne 217, 3) := by decide +kernel
theorem dL_refused_567 : decode cL_refused 567 = .ok (.aload_n 0, 1) := by decide +kernel
theorem dL_refused_568 : decode cL_refused 568 = .ok (.iload 4, 2) := by decide +kernel
theorem dL_refused_570 : decode cL_refused 570 = .ok (.invokestatic 217, 3) := by decide +kernel
theorem dL_refused_573 : decode cL_refused 573 = .ok (.sipush (-1001), 3) := by decide +kernel
theorem dL_refused_576 : decode cL_refused 576 = .ok (.if_icmp .ne 205, 3) := by decide +kernel
theorem dL_refused_579 : decode cL_refused 579 = .ok (.aload_n 0, 1) := by decide +kernel
theorem dL_refused_580 : decode cL_refused 580 = .ok (.iload 4, 2) := by decide +kernel
theorem dL_refused_582 : decode cL_refused 582 = .ok (.invokestatic 219, 3) := by decide +kernel
theorem dL_refused_585 : decode cL_refused 585 = .ok (.sipush (-1001), 3) := by decide +kernel
theorem dL_refused_588 : decode cL_refused 588 = .ok (.if_icmp .ne 193, 3) := by decide +kernel
theorem dL_refused_591 : decode cL_refused 591 = .ok (.aload_n 0, 1) := by decide +kernel
theorem dL_refused_592 : decode cL_refused 592 = .ok (.iconst 4, 1) := by decide +kernel
theorem dL_refused_593 : decode cL_refused 593 = .ok (.bipush 9, 2) := by decide +kernel
theorem dL_refused_595 : decode cL_refused 595 = .ok (.invokestatic 233, 3) := by decide +kernel
theorem dL_refused_598 : decode cL_refused 598 = .ok (.sipush (-1001), 3) := by decide +kernel
theorem dL_refused_601 : decode cL_refused 601 = .ok (.if_icmp .ne 180, 3) := by decide +kernel
theorem dL_refused_604 : decode cL_refused 604 = .ok (.aload_n 0, 1) := by decide +kernel
theorem dL_refused_605 : decode cL_refused 605 = .ok (.iconst 0, 1) := by decide +kernel
theorem dL_refused_606 : decode cL_refused 606 = .ok (.iconst (-1), 1) := by decide +kernel
theorem dL_refused_607 : decode cL_refused 607 = .ok (.invokestatic 233, 3) := by decide +kernel
theorem dL_refused_610 : decode cL_refused 610 = .ok (.sipush (-1002), 3) := by decide +kernel
theorem dL_refused_613 : decode cL_refused 613 = .ok (.if_icmp .ne 168, 3) := by decide +kernel
theorem dL_refused_616 : decode cL_refused 616 = .ok (.aload_n 0, 1) := by decide +kernel
theorem dL_refused_617 : decode cL_refused 617 = .ok (.iload 4, 2) := by decide +kernel
theorem dL_refused_619 : decode cL_refused 619 = .ok (.iconst 0, 1) := by decide +kernel
theorem dL_refused_620 : decode cL_refused 620 = .ok (.invokestatic 221, 3) := by decide +kernel
theorem dL_refused_623 : decode cL_refused 623 = .ok (.sipush (-1001), 3) := by decide +kernel
theorem dL_refused_626 : decode cL_refused 626 = .ok (.if_icmp .ne 155, 3) := by decide +kernel
theorem dL_refused_629 : decode cL_refused 629 = .ok (.aload_n 0, 1) := by decide +kernel
theorem dL_refused_630 : decode cL_refused 630 = .ok (.iconst 0, 1) := by decide +kernel
theorem dL_refused_631 : decode cL_refused 631 = .ok (.iconst 4, 1) := by decide +kernel
theorem dL_refused_632 : decode cL_refused 632 = .ok (.invokestatic 221, 3) := by decide +kernel
theorem dL_refused_635 : decode cL_refused 635 = .ok (.sipush (-1001), 3) := by decide +kernel
theorem dL_refused_638 : decode cL_refused 638 = .ok (.if_icmp .ne 143, 3) := by decide +kernel
theorem dL_refused_641 : decode cL_refused 641 = .ok (.aload_n 0, 1) := by decide +kernel
theorem dL_refused_642 : decode cL_refused 642 = .ok (.iload 4, 2) := by decide +kernel
theorem dL_refused_644 : decode cL_refused 644 = .ok (.invokestatic 223, 3) := by decide +kernel
theorem dL_refused_647 : decode cL_refused 647 = .ok (.sipush (-1001), 3) := by decide +kernel
theorem dL_refused_650 : decode cL_refused 650 = .ok (.if_icmp .ne 131, 3) := by decide +kernel
theorem dL_refused_653 : decode cL_refused 653 = .ok (.aload_n 0, 1) := by decide +kernel
theorem dL_refused_654 : decode cL_refused 654 = .ok (.iconst (-1), 1) := by decide +kernel
theorem dL_refused_655 : decode cL_refused 655 = .ok (.invokestatic 229, 3) := by decide +kernel
theorem dL_refused_658 : decode cL_refused 658 = .ok (.sipush (-1001), 3) := by decide +kernel
theorem dL_refused_661 : decode cL_refused 661 = .ok (.if_icmp .ne 120, 3) := by decide +kernel
theorem dL_refused_664 : decode cL_refused 664 = .ok (.aload_n 0, 1) := by decide +kernel
theorem dL_refused_665 : decode cL_refused 665 = .ok (.iconst (-1), 1) := by decide +kernel
theorem dL_refused_666 : decode cL_refused 666 = .ok (.invokestatic 231, 3) := by decide +kernel
theorem dL_refused_669 : decode cL_refused 669 = .ok (.sipush (-1001), 3) := by decide +kernel
theorem dL_refused_672 : decode cL_refused 672 = .ok (.if_icmp .ne 109, 3) := by decide +kernel
theorem dL_refused_675 : decode cL_refused 675 = .ok (.aload_n 0, 1) := by decide +kernel
theorem dL_refused_676 : decode cL_refused 676 = .ok (.iload 4, 2) := by decide +kernel
theorem dL_refused_678 : decode cL_refused 678 = .ok (.invokestatic 225, 3) := by decide +kernel
theorem dL_refused_681 : decode cL_refused 681 = .ok (.sipush (-1001), 3) := by decide +kernel
theorem dL_refused_684 : decode cL_refused 684 = .ok (.if_icmp .ne 97, 3) := by decide +kernel
theorem dL_refused_687 : decode cL_refused 687 = .ok (.aload_n 0, 1) := by decide +kernel
theorem dL_refused_688 : decode cL_refused 688 = .ok (.iload 4, 2) := by decide +kernel
theorem dL_refused_690 : decode cL_refused 690 = .ok (.invokestatic 161, 3) := by decide +kernel
theorem dL_refused_693 : decode cL_refused 693 = .ok (.sipush (-1001), 3) := by decide +kernel
theorem dL_refused_696 : decode cL_refused 696 = .ok (.if_icmp .ne 85, 3) := by decide +kernel
theorem dL_refused_699 : decode cL_refused 699 = .ok (.aload_n 0, 1) := by decide +kernel
theorem dL_refused_700 : decode cL_refused 700 = .ok (.iconst (-1), 1) := by decide +kernel
theorem dL_refused_701 : decode cL_refused 701 = .ok (.invokestatic 163, 3) := by decide +kernel
theorem dL_refused_704 : decode cL_refused 704 = .ok (.sipush (-1001), 3) := by decide +kernel
theorem dL_refused_707 : decode cL_refused 707 = .ok (.if_icmp .ne 74, 3) := by decide +kernel
theorem dL_refused_710 : decode cL_refused 710 = .ok (.aload_n 0, 1) := by decide +kernel
theorem dL_refused_711 : decode cL_refused 711 = .ok (.bipush 40, 2) := by decide +kernel
theorem dL_refused_713 : decode cL_refused 713 = .ok (.invokestatic 163, 3) := by decide +kernel
theorem dL_refused_716 : decode cL_refused 716 = .ok (.sipush (-1001), 3) := by decide +kernel
theorem dL_refused_719 : decode cL_refused 719 = .ok (.if_icmp .ne 62, 3) := by decide +kernel
theorem dL_refused_722 : decode cL_refused 722 = .ok (.aload_n 0, 1) := by decide +kernel
theorem dL_refused_723 : decode cL_refused 723 = .ok (.bipush 16, 2) := by decide +kernel
theorem dL_refused_725 : decode cL_refused 725 = .ok (.invokestatic 204, 3) := by decide +kernel
theorem dL_refused_728 : decode cL_refused 728 = .ok (.sipush (-1001), 3) := by decide +kernel
theorem dL_refused_731 : decode cL_refused 731 = .ok (.if_icmp .ne 50, 3) := by decide +kernel
theorem dL_refused_734 : decode cL_refused 734 = .ok (.aload_n 0, 1) := by decide +kernel
theorem dL_refused_735 : decode cL_refused 735 = .ok (.iconst (-1), 1) := by decide +kernel
theorem dL_refused_736 : decode cL_refused 736 = .ok (.invokestatic 204, 3) := by decide +kernel
theorem dL_refused_739 : decode cL_refused 739 = .ok (.sipush (-1001), 3) := by decide +kernel
theorem dL_refused_742 : decode cL_refused 742 = .ok (.if_icmp .ne 39, 3) := by decide +kernel
theorem dL_refused_745 : decode cL_refused 745 = .ok (.aload_n 0, 1) := by decide +kernel
theorem dL_refused_746 : decode cL_refused 746 = .ok (.iconst 3, 1) := by decide +kernel
theorem dL_refused_747 : decode cL_refused 747 = .ok (.invokestatic 158, 3) := by decide +kernel
theorem dL_refused_750 : decode cL_refused 750 = .ok (.sipush (-1001), 3) := by decide +kernel
theorem dL_refused_753 : decode cL_refused 753 = .ok (.if_icmp .ne 28, 3) := by decide +kernel
theorem dL_refused_756 : decode cL_refused 756 = .ok (.aload_n 0, 1) := by decide +kernel
theorem dL_refused_757 : decode cL_refused 757 = .ok (.iconst (-1), 1) := by decide +kernel
theorem dL_refused_758 : decode cL_refused 758 = .ok (.invokestatic 158, 3) := by decide +kernel
theorem dL_refused_761 : decode cL_refused 761 = .ok (.sipush (-1001), 3) := by decide +kernel
theorem dL_refused_764 : decode cL_refused 764 = .ok (.if_icmp .ne 17, 3) := by decide +kernel
theorem dL_refused_767 : decode cL_refused 767 = .ok (.aload_n 0, 1) := by decide +kernel
theorem dL_refused_768 : decode cL_refused 768 = .ok (.iconst 1, 1) := by decide +kernel
theorem dL_refused_769 : decode cL_refused 769 = .ok (.iconst 0, 1) := by decide +kernel
theorem dL_refused_770 : decode cL_refused 770 = .ok (.iconst 0, 1) := by decide +kernel
theorem dL_refused_771 : decode cL_refused 771 = .ok (.invokestatic 282, 3) := by decide +kernel
theorem dL_refused_774 : decode cL_refused 774 = .ok (.ifCond .eq 7, 3) := by decide +kernel
theorem dL_refused_777 : decode cL_refused 777 = .ok (.iconst 1, 1) := by decide +kernel
theorem dL_refused_778 : decode cL_refused 778 = .ok (.goto 4, 3) := by decide +kernel
theorem dL_refused_781 : decode cL_refused 781 = .ok (.iconst 0, 1) := by decide +kernel
theorem dL_refused_782 : decode cL_refused 782 = .ok (.istore 5, 2) := by decide +kernel
theorem dL_refused_784 : decode cL_refused 784 = .ok (.iload 5, 2) := by decide +kernel
theorem dL_refused_786 : decode cL_refused 786 = .ok (.ifCond .eq 77, 3) := by decide +kernel
theorem dL_refused_789 : decode cL_refused 789 = .ok (.aload_n 0, 1) := by decide +kernel
theorem dL_refused_790 : decode cL_refused 790 = .ok (.ldc_w 286, 3) := by decide +kernel
theorem dL_refused_793 : decode cL_refused 793 = .ok (.invokestatic 274, 3) := by decide +kernel
theorem dL_refused_796 : decode cL_refused 796 = .ok (.sipush (-1001), 3) := by decide +kernel
theorem dL_refused_799 : decode cL_refused 799 = .ok (.if_icmp .ne 64, 3) := by decide +kernel
theorem dL_refused_802 : decode cL_refused 802 = .ok (.aload_n 0, 1) := by decide +kernel
theorem dL_refused_803 : decode cL_refused 803 = .ok (.invokevirtual 288, 3) := by decide +kernel
theorem dL_refused_806 : decode cL_refused 806 = .ok (.ifCond .ne 57, 3) := by decide +kernel
theorem dL_refused_809 : decode cL_refused 809 = .ok (.aload_n 0, 1) := by decide +kernel
theorem dL_refused_810 : decode cL_refused 810 = .ok (.iconst 1, 1) := by decide +kernel
theorem dL_refused_811 : decode cL_refused 811 = .ok (.iconst 0, 1) := by decide +kernel
theorem dL_refused_812 : decode cL_refused 812 = .ok (.iconst 0, 1) := by decide +kernel
theorem dL_refused_813 : decode cL_refused 813 = .ok (.invokestatic 282, 3) := by decide +kernel
theorem dL_refused_816 : decode cL_refused 816 = .ok (.ifCond .eq 47, 3) := by decide +kernel
theorem dL_refused_819 : decode cL_refused 819 = .ok (.aload_n 0, 1) := by decide +kernel
theorem dL_refused_820 : decode cL_refused 820 = .ok (.ldc_w 291, 3) := by decide +kernel
theorem dL_refused_823 : decode cL_refused 823 = .ok (.invokestatic 274, 3) := by decide +kernel
theorem dL_refused_826 : decode cL_refused 826 = .ok (.sipush (-1002), 3) := by decide +kernel
theorem dL_refused_829 : decode cL_refused 829 = .ok (.if_icmp .ne 34, 3) := by decide +kernel
theorem dL_refused_832 : decode cL_refused 832 = .ok (.aload_n 0, 1) := by decide +kernel
theorem dL_refused_833 : decode cL_refused 833 = .ok (.invokevirtual 288, 3) := by decide +kernel
theorem dL_refused_836 : decode cL_refused 836 = .ok (.iconst (-1), 1) := by decide +kernel
theorem dL_refused_837 : decode cL_refused 837 = .ok (.if_icmp .ne 26, 3) := by decide +kernel
theorem dL_refused_840 : decode cL_refused 840 = .ok (.aload_n 0, 1) := by decide +kernel
theorem dL_refused_841 : decode cL_refused 841 = .ok (.iconst 1, 1) := by decide +kernel
theorem dL_refused_842 : decode cL_refused 842 = .ok (.iconst 0, 1) := by decide +kernel
theorem dL_refused_843 : decode cL_refused 843 = .ok (.iconst 2, 1) := by decide +kernel
theorem dL_refused_844 : decode cL_refused 844 = .ok (.invokestatic 282, 3) := by decide +kernel
theorem dL_refused_847 : decode cL_refused 847 = .ok (.ifCond .eq 16, 3) := by decide +kernel
theorem dL_refused_850 : decode cL_refused 850 = .ok (.aload_n 0, 1) := by decide +kernel
theorem dL_refused_851 : decode cL_refused 851 = .ok (.invokestatic 278, 3) := by decide +kernel
theorem dL_refused_854 : decode cL_refused 854 = .ok (.lload_n 1, 1) := by decide +kernel
theorem dL_refused_855 : decode cL_refused 855 = .ok (.lcmp, 1) := by decide +kernel
theorem dL_refused_856 : decode cL_refused 856 = .ok (.ifCond .ne 7, 3) := by decide +kernel
theorem dL_refused_859 : decode cL_refused 859 = .ok (.iconst 1, 1) := by decide +kernel
theorem dL_refused_860 : decode cL_refused 860 = .ok (.goto 4, 3) := by decide +kernel
theorem dL_refused_863 : decode cL_refused 863 = .ok (.iconst 0, 1) := by decide +kernel
theorem dL_refused_864 : decode cL_refused 864 = .ok (.ireturn, 1) := by decide +kernel
