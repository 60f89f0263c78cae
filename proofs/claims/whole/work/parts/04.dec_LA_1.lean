theorem d_LA_law_527 : decode b_LA_law 527 = .ok (.iadd, 1) := by decide +kernel
theorem d_LA_law_528 : decode b_LA_law 528 = .ok (.iaload, 1) := by decide +kernel
theorem d_LA_law_529 : decode b_LA_law 529 = .ok (.aload_n 0, 1) := by decide +kernel
theorem d_LA_law_530 : decode b_LA_law 530 = .ok (.iload 4, 2) := by decide +kernel
theorem d_LA_law_532 : decode b_LA_law 532 = .ok (.iconst 2, 1) := by decide +kernel
theorem d_LA_law_533 : decode b_LA_law 533 = .ok (.iadd, 1) := by decide +kernel
theorem d_LA_law_534 : decode b_LA_law 534 = .ok (.iaload, 1) := by decide +kernel
theorem d_LA_law_535 : decode b_LA_law 535 = .ok (.aload_n 3, 1) := by decide +kernel
theorem d_LA_law_536 : decode b_LA_law 536 = .ok (.invokestatic 90, 3) := by decide +kernel
theorem d_LA_law_539 : decode b_LA_law 539 = .ok (.istore 5, 2) := by decide +kernel
theorem d_LA_law_541 : decode b_LA_law 541 = .ok (.aload_n 2, 1) := by decide +kernel
theorem d_LA_law_542 : decode b_LA_law 542 = .ok (.aload_n 0, 1) := by decide +kernel
theorem d_LA_law_543 : decode b_LA_law 543 = .ok (.iload 4, 2) := by decide +kernel
theorem d_LA_law_545 : decode b_LA_law 545 = .ok (.iconst 1, 1) := by decide +kernel
theorem d_LA_law_546 : decode b_LA_law 546 = .ok (.iadd, 1) := by decide +kernel
theorem d_LA_law_547 : decode b_LA_law 547 = .ok (.iaload, 1) := by decide +kernel
theorem d_LA_law_548 : decode b_LA_law 548 = .ok (.aload_n 0, 1) := by decide +kernel
theorem d_LA_law_549 : decode b_LA_law 549 = .ok (.iload 4, 2) := by decide +kernel
theorem d_LA_law_551 : decode b_LA_law 551 = .ok (.iconst 2, 1) := by decide +kernel
theorem d_LA_law_552 : decode b_LA_law 552 = .ok (.iadd, 1) := by decide +kernel
theorem d_LA_law_553 : decode b_LA_law 553 = .ok (.iaload, 1) := by decide +kernel
theorem d_LA_law_554 : decode b_LA_law 554 = .ok (.invokevirtual 92, 3) := by decide +kernel
theorem d_LA_law_557 : decode b_LA_law 557 = .ok (.istore 6, 2) := by decide +kernel
theorem d_LA_law_559 : decode b_LA_law 559 = .ok (.aload_n 2, 1) := by decide +kernel
theorem d_LA_law_560 : decode b_LA_law 560 = .ok (.invokevirtual 64, 3) := by decide +kernel
theorem d_LA_law_563 : decode b_LA_law 563 = .ok (.iload 5, 2) := by decide +kernel
theorem d_LA_law_565 : decode b_LA_law 565 = .ok (.if_icmp .eq 5, 3) := by decide +kernel
theorem d_LA_law_568 : decode b_LA_law 568 = .ok (.iconst 0, 1) := by decide +kernel
theorem d_LA_law_569 : decode b_LA_law 569 = .ok (.ireturn, 1) := by decide +kernel
theorem d_LA_law_570 : decode b_LA_law 570 = .ok (.iload 5, 2) := by decide +kernel
theorem d_LA_law_572 : decode b_LA_law 572 = .ok (.ifCond .ne 15, 3) := by decide +kernel
theorem d_LA_law_575 : decode b_LA_law 575 = .ok (.aload_n 3, 1) := by decide +kernel
theorem d_LA_law_576 : decode b_LA_law 576 = .ok (.iconst 0, 1) := by decide +kernel
theorem d_LA_law_577 : decode b_LA_law 577 = .ok (.laload, 1) := by decide +kernel
theorem d_LA_law_578 : decode b_LA_law 578 = .ok (.iload 6, 2) := by decide +kernel
theorem d_LA_law_580 : decode b_LA_law 580 = .ok (.i2l, 1) := by decide +kernel
theorem d_LA_law_581 : decode b_LA_law 581 = .ok (.lcmp, 1) := by decide +kernel
theorem d_LA_law_582 : decode b_LA_law 582 = .ok (.ifCond .eq 5, 3) := by decide +kernel
theorem d_LA_law_585 : decode b_LA_law 585 = .ok (.iconst 0, 1) := by decide +kernel
theorem d_LA_law_586 : decode b_LA_law 586 = .ok (.ireturn, 1) := by decide +kernel
theorem d_LA_law_587 : decode b_LA_law 587 = .ok (.goto 338, 3) := by decide +kernel
theorem d_LA_law_590 : decode b_LA_law 590 = .ok (.aload_n 1, 1) := by decide +kernel
theorem d_LA_law_591 : decode b_LA_law 591 = .ok (.aload_n 0, 1) := by decide +kernel
theorem d_LA_law_592 : decode b_LA_law 592 = .ok (.iload 4, 2) := by decide +kernel
theorem d_LA_law_594 : decode b_LA_law 594 = .ok (.iconst 1, 1) := by decide +kernel
theorem d_LA_law_595 : decode b_LA_law 595 = .ok (.iadd, 1) := by decide +kernel
theorem d_LA_law_596 : decode b_LA_law 596 = .ok (.iaload, 1) := by decide +kernel
theorem d_LA_law_597 : decode b_LA_law 597 = .ok (.aload_n 0, 1) := by decide +kernel
theorem d_LA_law_598 : decode b_LA_law 598 = .ok (.iload 4, 2) := by decide +kernel
theorem d_LA_law_600 : decode b_LA_law 600 = .ok (.iconst 2, 1) := by decide +kernel
theorem d_LA_law_601 : decode b_LA_law 601 = .ok (.iadd, 1) := by decide +kernel
theorem d_LA_law_602 : decode b_LA_law 602 = .ok (.iaload, 1) := by decide +kernel
theorem d_LA_law_603 : decode b_LA_law 603 = .ok (.i2l, 1) := by decide +kernel
theorem d_LA_law_604 : decode b_LA_law 604 = .ok (.bipush 32, 2) := by decide +kernel
theorem d_LA_law_606 : decode b_LA_law 606 = .ok (.lshl, 1) := by decide +kernel
theorem d_LA_law_607 : decode b_LA_law 607 = .ok (.aload_n 0, 1) := by decide +kernel
theorem d_LA_law_608 : decode b_LA_law 608 = .ok (.iload 4, 2) := by decide +kernel
theorem d_LA_law_610 : decode b_LA_law 610 = .ok (.iconst 3, 1) := by decide +kernel
theorem d_LA_law_611 : decode b_LA_law 611 = .ok (.iadd, 1) := by decide +kernel
theorem d_LA_law_612 : decode b_LA_law 612 = .ok (.iaload, 1) := by decide +kernel
theorem d_LA_law_613 : decode b_LA_law 613 = .ok (.i2l, 1) := by decide +kernel
theorem d_LA_law_614 : decode b_LA_law 614 = .ok (.ldc2_w 93, 3) := by decide +kernel
theorem d_LA_law_617 : decode b_LA_law 617 = .ok (.land, 1) := by decide +kernel
theorem d_LA_law_618 : decode b_LA_law 618 = .ok (.lor, 1) := by decide +kernel
theorem d_LA_law_619 : decode b_LA_law 619 = .ok (.aload_n 3, 1) := by decide +kernel
theorem d_LA_law_620 : decode b_LA_law 620 = .ok (.invokestatic 95, 3) := by decide +kernel
theorem d_LA_law_623 : decode b_LA_law 623 = .ok (.istore 5, 2) := by decide +kernel
theorem d_LA_law_625 : decode b_LA_law 625 = .ok (.aload_n 2, 1) := by decide +kernel
theorem d_LA_law_626 : decode b_LA_law 626 = .ok (.aload_n 0, 1) := by decide +kernel
theorem d_LA_law_627 : decode b_LA_law 627 = .ok (.iload 4, 2) := by decide +kernel
theorem d_LA_law_629 : decode b_LA_law 629 = .ok (.iconst 1, 1) := by decide +kernel
theorem d_LA_law_630 : decode b_LA_law 630 = .ok (.iadd, 1) := by decide +kernel
theorem d_LA_law_631 : decode b_LA_law 631 = .ok (.iaload, 1) := by decide +kernel
theorem d_LA_law_632 : decode b_LA_law 632 = .ok (.aload_n 0, 1) := by decide +kernel
theorem d_LA_law_633 : decode b_LA_law 633 = .ok (.iload 4, 2) := by decide +kernel
theorem d_LA_law_635 : decode b_LA_law 635 = .ok (.iconst 2, 1) := by decide +kernel
theorem d_LA_law_636 : decode b_LA_law 636 = .ok (.iadd, 1) := by decide +kernel
theorem d_LA_law_637 : decode b_LA_law 637 = .ok (.iaload, 1) := by decide +kernel
theorem d_LA_law_638 : decode b_LA_law 638 = .ok (.i2l, 1) := by decide +kernel
theorem d_LA_law_639 : decode b_LA_law 639 = .ok (.bipush 32, 2) := by decide +kernel
theorem d_LA_law_641 : decode b_LA_law 641 = .ok (.lshl, 1) := by decide +kernel
theorem d_LA_law_642 : decode b_LA_law 642 = .ok (.aload_n 0, 1) := by decide +kernel
theorem d_LA_law_643 : decode b_LA_law 643 = .ok (.iload 4, 2) := by decide +kernel
theorem d_LA_law_645 : decode b_LA_law 645 = .ok (.iconst 3, 1) := by decide +kernel
theorem d_LA_law_646 : decode b_LA_law 646 = .ok (.iadd, 1) := by decide +kernel
theorem d_LA_law_647 : decode b_LA_law 647 = .ok (.iaload, 1) := by decide +kernel
theorem d_LA_law_648 : decode b_LA_law 648 = .ok (.i2l, 1) := by decide +kernel
theorem d_LA_law_649 : decode b_LA_law 649 = .ok (.ldc2_w 93, 3) := by decide +kernel
theorem d_LA_law_652 : decode b_LA_law 652 = .ok (.land, 1) := by decide +kernel
theorem d_LA_law_653 : decode b_LA_law 653 = .ok (.lor, 1) := by decide +kernel
theorem d_LA_law_654 : decode b_LA_law 654 = .ok (.invokevirtual 98, 3) := by decide +kernel
theorem d_LA_law_657 : decode b_LA_law 657 = .ok (.istore 6, 2) := by decide +kernel
theorem d_LA_law_659 : decode b_LA_law 659 = .ok (.aload_n 2, 1) := by decide +kernel
theorem d_LA_law_660 : decode b_LA_law 660 = .ok (.invokevirtual 64, 3) := by decide +kernel
theorem d_LA_law_663 : decode b_LA_law 663 = .ok (.iload 5, 2) := by decide +kernel
theorem d_LA_law_665 : decode b_LA_law 665 = .ok (.if_icmp .eq 5, 3) := by decide +kernel
theorem d_LA_law_668 : decode b_LA_law 668 = .ok (.iconst 0, 1) := by decide +kernel
theorem d_LA_law_669 : decode b_LA_law 669 = .ok (.ireturn, 1) := by decide +kernel
theorem d_LA_law_670 : decode b_LA_law 670 = .ok (.iload 5, 2) := by decide +kernel
theorem d_LA_law_672 : decode b_LA_law 672 = .ok (.ifCond .ne 22, 3) := by decide +kernel
theorem d_LA_law_675 : decode b_LA_law 675 = .ok (.aload_n 3, 1) := by decide +kernel
theorem d_LA_law_676 : decode b_LA_law 676 = .ok (.iconst 0, 1) := by decide +kernel
theorem d_LA_law_677 : decode b_LA_law 677 = .ok (.laload, 1) := by decide +kernel
theorem d_LA_law_678 : decode b_LA_law 678 = .ok (.iload 6, 2) := by decide +kernel
theorem d_LA_law_680 : decode b_LA_law 680 = .ok (.ifCond .eq 7, 3) := by decide +kernel
theorem d_LA_law_683 : decode b_LA_law 683 = .ok (.lconst 1, 1) := by decide +kernel
theorem d_LA_law_684 : decode b_LA_law 684 = .ok (.goto 4, 3) := by decide +kernel
theorem d_LA_law_687 : decode b_LA_law 687 = .ok (.lconst 0, 1) := by decide +kernel
theorem d_LA_law_688 : decode b_LA_law 688 = .ok (.lcmp, 1) := by decide +kernel
theorem d_LA_law_689 : decode b_LA_law 689 = .ok (.ifCond .eq 5, 3) := by decide +kernel
theorem d_LA_law_692 : decode b_LA_law 692 = .ok (.iconst 0, 1) := by decide +kernel
theorem d_LA_law_693 : decode b_LA_law 693 = .ok (.ireturn, 1) := by decide +kernel
theorem d_LA_law_694 : decode b_LA_law 694 = .ok (.goto 231, 3) := by decide +kernel
theorem d_LA_law_697 : decode b_LA_law 697 = .ok (.aload_n 1, 1) := by decide +kernel
theorem d_LA_law_698 : decode b_LA_law 698 = .ok (.aload_n 0, 1) := by decide +kernel
theorem d_LA_law_699 : decode b_LA_law 699 = .ok (.iload 4, 2) := by decide +kernel
theorem d_LA_law_701 : decode b_LA_law 701 = .ok (.iconst 1, 1) := by decide +kernel
theorem d_LA_law_702 : decode b_LA_law 702 = .ok (.iadd, 1) := by decide +kernel
theorem d_LA_law_703 : decode b_LA_law 703 = .ok (.iaload, 1) := by decide +kernel
theorem d_LA_law_704 : decode b_LA_law 704 = .ok (.aload_n 0, 1) := by decide +kernel
theorem d_LA_law_705 : decode b_LA_law 705 = .ok (.iload 4, 2) := by decide +kernel
theorem d_LA_law_707 : decode b_LA_law 707 = .ok (.iconst 2, 1) := by decide +kernel
theorem d_LA_law_708 : decode b_LA_law 708 = .ok (.iadd, 1) := by decide +kernel
theorem d_LA_law_709 : decode b_LA_law 709 = .ok (.iaload, 1) := by decide +kernel
theorem d_LA_law_710 : decode b_LA_law 710 = .ok (.aload_n 3, 1) := by decide +kernel
theorem d_LA_law_711 : decode b_LA_law 711 = .ok (.invokestatic 99, 3) := by decide +kernel
theorem d_LA_law_714 : decode b_LA_law 714 = .ok (.istore 5, 2) := by decide +kernel
theorem d_LA_law_716 : decode b_LA_law 716 = .ok (.aload_n 2, 1) := by decide +kernel
theorem d_LA_law_717 : decode b_LA_law 717 = .ok (.aload_n 0, 1) := by decide +kernel
theorem d_LA_law_718 : decode b_LA_law 718 = .ok (.iload 4, 2) := by decide +kernel
theorem d_LA_law_720 : decode b_LA_law 720 = .ok (.iconst 1, 1) := by decide +kernel
theorem d_LA_law_721 : decode b_LA_law 721 = .ok (.iadd, 1) := by decide +kernel
theorem d_LA_law_722 : decode b_LA_law 722 = .ok (.iaload, 1) := by decide +kernel
theorem d_LA_law_723 : decode b_LA_law 723 = .ok (.aload_n 0, 1) := by decide +kernel
theorem d_LA_law_724 : decode b_LA_law 724 = .ok (.iload 4, 2) := by decide +kernel
theorem d_LA_law_726 : decode b_LA_law 726 = .ok (.iconst 2, 1) := by decide +kernel
theorem d_LA_law_727 : decode b_LA_law 727 = .ok (.iadd, 1) := by decide +kernel
theorem d_LA_law_728 : decode b_LA_law 728 = .ok (.iaload, 1) := by decide +kernel
theorem d_LA_law_729 : decode b_LA_law 729 = .ok (.invokevirtual 101, 3) := by decide +kernel
theorem d_LA_law_732 : decode b_LA_law 732 = .ok (.lstore 6, 2) := by decide +kernel
theorem d_LA_law_734 : decode b_LA_law 734 = .ok (.aload_n 2, 1) := by decide +kernel
theorem d_LA_law_735 : decode b_LA_law 735 = .ok (.invokevirtual 64, 3) := by decide +kernel
theorem d_LA_law_738 : decode b_LA_law 738 = .ok (.iload 5, 2) := by decide +kernel
theorem d_LA_law_740 : decode b_LA_law 740 = .ok (.if_icmp .eq 5, 3) := by decide +kernel
theorem d_LA_law_743 : decode b_LA_law 743 = .ok (.iconst 0, 1) := by decide +kernel
theorem d_LA_law_744 : decode b_LA_law 744 = .ok (.ireturn, 1) := by decide +kernel
theorem d_LA_law_745 : decode b_LA_law 745 = .ok (.iload 5, 2) := by decide +kernel
theorem d_LA_law_747 : decode b_LA_law 747 = .ok (.ifCond .ne 14, 3) := by decide +kernel
theorem d_LA_law_750 : decode b_LA_law 750 = .ok (.aload_n 3, 1) := by decide +kernel
theorem d_LA_law_751 : decode b_LA_law 751 = .ok (.iconst 0, 1) := by decide +kernel
theorem d_LA_law_752 : decode b_LA_law 752 = .ok (.laload, 1) := by decide +kernel
theorem d_LA_law_753 : decode b_LA_law 753 = .ok (.lload 6, 2) := by decide +kernel
theorem d_LA_law_755 : decode b_LA_law 755 = .ok (.lcmp, 1) := by decide +kernel
theorem d_LA_law_756 : decode b_LA_law 756 = .ok (.ifCond .eq 5, 3) := by decide +kernel
theorem d_LA_law_759 : decode b_LA_law 759 = .ok (.iconst 0, 1) := by decide +kernel
theorem d_LA_law_760 : decode b_LA_law 760 = .ok (.ireturn, 1) := by decide +kernel
theorem d_LA_law_761 : decode b_LA_law 761 = .ok (.goto 164, 3) := by decide +kernel
theorem d_LA_law_764 : decode b_LA_law 764 = .ok (.aload_n 1, 1) := by decide +kernel
theorem d_LA_law_765 : decode b_LA_law 765 = .ok (.aload_n 0, 1) := by decide +kernel
theorem d_LA_law_766 : decode b_LA_law 766 = .ok (.iload 4, 2) := by decide +kernel
theorem d_LA_law_768 : decode b_LA_law 768 = .ok (.iconst 1, 1) := by decide +kernel
theorem d_LA_law_769 : decode b_LA_law 769 = .ok (.iadd, 1) := by decide +kernel
theorem d_LA_law_770 : decode b_LA_law 770 = .ok (.iaload, 1) := by decide +kernel
theorem d_LA_law_771 : decode b_LA_law 771 = .ok (.aload_n 0, 1) := by decide +kernel
theorem d_LA_law_772 : decode b_LA_law 772 = .ok (.iload 4, 2) := by decide +kernel
theorem d_LA_law_774 : decode b_LA_law 774 = .ok (.iconst 2, 1) := by decide +kernel
theorem d_LA_law_775 : decode b_LA_law 775 = .ok (.iadd, 1) := by decide +kernel
theorem d_LA_law_776 : decode b_LA_law 776 = .ok (.iaload, 1) := by decide +kernel
theorem d_LA_law_777 : decode b_LA_law 777 = .ok (.aload_n 0, 1) := by decide +kernel
theorem d_LA_law_778 : decode b_LA_law 778 = .ok (.iload 4, 2) := by decide +kernel
theorem d_LA_law_780 : decode b_LA_law 780 = .ok (.iconst 3, 1) := by decide +kernel
theorem d_LA_law_781 : decode b_LA_law 781 = .ok (.iadd, 1) := by decide +kernel
theorem d_LA_law_782 : decode b_LA_law 782 = .ok (.iaload, 1) := by decide +kernel
theorem d_LA_law_783 : decode b_LA_law 783 = .ok (.aload_n 3, 1) := by decide +kernel
theorem d_LA_law_784 : decode b_LA_law 784 = .ok (.invokestatic 102, 3) := by decide +kernel
theorem d_LA_law_787 : decode b_LA_law 787 = .ok (.istore 5, 2) := by decide +kernel
theorem d_LA_law_789 : decode b_LA_law 789 = .ok (.aload_n 2, 1) := by decide +kernel
theorem d_LA_law_790 : decode b_LA_law 790 = .ok (.aload_n 0, 1) := by decide +kernel
theorem d_LA_law_791 : decode b_LA_law 791 = .ok (.iload 4, 2) := by decide +kernel
theorem d_LA_law_793 : decode b_LA_law 793 = .ok (.iconst 1, 1) := by decide +kernel
theorem d_LA_law_794 : decode b_LA_law 794 = .ok (.iadd, 1) := by decide +kernel
theorem d_LA_law_795 : decode b_LA_law 795 = .ok (.iaload, 1) := by decide +kernel
theorem d_LA_law_796 : decode b_LA_law 796 = .ok (.aload_n 0, 1) := by decide +kernel
theorem d_LA_law_797 : decode b_LA_law 797 = .ok (.iload 4, 2) := by decide +kernel
theorem d_LA_law_799 : decode b_LA_law 799 = .ok (.iconst 2, 1) := by decide +kernel
theorem d_LA_law_800 : decode b_LA_law 800 = .ok (.iadd, 1) := by decide +kernel
theorem d_LA_law_801 : decode b_LA_law 801 = .ok (.iaload, 1) := by decide +kernel
theorem d_LA_law_802 : decode b_LA_law 802 = .ok (.aload_n 0, 1) := by decide +kernel
theorem d_LA_law_803 : decode b_LA_law 803 = .ok (.iload 4, 2) := by decide +kernel
theorem d_LA_law_805 : decode b_LA_law 805 = .ok (.iconst 3, 1) := by decide +kernel
theorem d_LA_law_806 : decode b_LA_law 806 = .ok (.iadd, 1) := by decide +kernel
theorem d_LA_law_807 : decode b_LA_law 807 = .ok (.iaload, 1) := by decide +kernel
theorem d_LA_law_808 : decode b_LA_law 808 = .ok (.invokevirtual 104, 3) := by decide +kernel
theorem d_LA_law_811 : decode b_LA_law 811 = .ok (.istore 6, 2) := by decide +kernel
theorem d_LA_law_813 : decode b_LA_law 813 = .ok (.aload_n 2, 1) := by decide +kernel
theorem d_LA_law_814 : decode b_LA_law 814 = .ok (.invokevirtual 64, 3) := by decide +kernel
theorem d_LA_law_817 : decode b_LA_law 817 = .ok (.iload 5, 2) := by decide +kernel
theorem d_LA_law_819 : decode b_LA_law 819 = .ok (.if_icmp .eq 5, 3) := by decide +kernel
theorem d_LA_law_822 : decode b_LA_law 822 = .ok (.iconst 0, 1) := by decide +kernel
theorem d_LA_law_823 : decode b_LA_law 823 = .ok (.ireturn, 1) := by decide +kernel
theorem d_LA_law_824 : decode b_LA_law 824 = .ok (.iload 5, 2) := by decide +kernel
theorem d_LA_law_826 : decode b_LA_law 826 = .ok (.ifCond .ne 15, 3) := by decide +kernel
theorem d_LA_law_829 : decode b_LA_law 829 = .ok (.aload_n 3, 1) := by decide +kernel
theorem d_LA_law_830 : decode b_LA_law 830 = .ok (.iconst 0, 1) := by decide +kernel
theorem d_LA_law_831 : decode b_LA_law 831 = .ok (.laload, 1) := by decide +kernel
theorem d_LA_law_832 : decode b_LA_law 832 = .ok (.iload 6, 2) := by decide +kernel
theorem d_LA_law_834 : decode b_LA_law 834 = .ok (.i2l, 1) := by decide +kernel
theorem d_LA_law_835 : decode b_LA_law 835 = .ok (.lcmp, 1) := by decide +kernel
theorem d_LA_law_836 : decode b_LA_law 836 = .ok (.ifCond .eq 5, 3) := by decide +kernel
theorem d_LA_law_839 : decode b_LA_law 839 = .ok (.iconst 0, 1) := by decide +kernel
theorem d_LA_law_840 : decode b_LA_law 840 = .ok (.ireturn, 1) := by decide +kernel
theorem d_LA_law_841 : decode b_LA_law 841 = .ok (.goto 84, 3) := by decide +kernel
theorem d_LA_law_844 : decode b_LA_law 844 = .ok (.aload_n 1, 1) := by decide +kernel
theorem d_LA_law_845 : decode b_LA_law 845 = .ok (.aload_n 0, 1) := by decide +kernel
theorem d_LA_law_846 : decode b_LA_law 846 = .ok (.iload 4, 2) := by decide +kernel
theorem d_LA_law_848 : decode b_LA_law 848 = .ok (.iconst 1, 1) := by decide +kernel
theorem d_LA_law_849 : decode b_LA_law 849 = .ok (.iadd, 1) := by decide +kernel
theorem d_LA_law_850 : decode b_LA_law 850 = .ok (.iaload, 1) := by decide +kernel
theorem d_LA_law_851 : decode b_LA_law 851 = .ok (.aload_n 3, 1) := by decide +kernel
theorem d_LA_law_852 : decode b_LA_law 852 = .ok (.invokestatic 105, 3) := by decide +kernel
theorem d_LA_law_855 : decode b_LA_law 855 = .ok (.istore 5, 2) := by decide +kernel
theorem d_LA_law_857 : decode b_LA_law 857 = .ok (.aload_n 2, 1) := by decide +kernel
theorem d_LA_law_858 : decode b_LA_law 858 = .ok (.aload_n 0, 1) := by decide +kernel
theorem d_LA_law_859 : decode b_LA_law 859 = .ok (.iload 4, 2) := by decide +kernel
theorem d_LA_law_861 : decode b_LA_law 861 = .ok (.iconst 1, 1) := by decide +kernel
theorem d_LA_law_862 : decode b_LA_law 862 = .ok (.iadd, 1) := by decide +kernel
theorem d_LA_law_863 : decode b_LA_law 863 = .ok (.iaload, 1) := by decide +kernel
theorem d_LA_law_864 : decode b_LA_law 864 = .ok (.invokevirtual 107, 3) := by decide +kernel
theorem d_LA_law_867 : decode b_LA_law 867 = .ok (.istore 6, 2) := by decide +kernel
theorem d_LA_law_869 : decode b_LA_law 869 = .ok (.aload_n 2, 1) := by decide +kernel
theorem d_LA_law_870 : decode b_LA_law 870 = .ok (.invokevirtual 64, 3) := by decide +kernel
theorem d_LA_law_873 : decode b_LA_law 873 = .ok (.iload 5, 2) := by decide +kernel
theorem d_LA_law_875 : decode b_LA_law 875 = .ok (.if_icmp .eq 5, 3) := by decide +kernel
theorem d_LA_law_878 : decode b_LA_law 878 = .ok (.iconst 0, 1) := by decide +kernel
theorem d_LA_law_879 : decode b_LA_law 879 = .ok (.ireturn, 1) := by decide +kernel
theorem d_LA_law_880 : decode b_LA_law 880 = .ok (.iload 5, 2) := by decide +kernel
theorem d_LA_law_882 : decode b_LA_law 882 = .ok (.ifCond .ne 15, 3) := by decide +kernel
theorem d_LA_law_885 : decode b_LA_law 885 = .ok (.aload_n 3, 1) := by decide +kernel
theorem d_LA_law_886 : decode b_LA_law 886 = .ok (.iconst 0, 1) := by decide +kernel
theorem d_LA_law_887 : decode b_LA_law 887 = .ok (.laload, 1) := by decide +kernel
theorem d_LA_law_888 : decode b_LA_law 888 = .ok (.iload 6, 2) := by decide +kernel
theorem d_LA_law_890 : decode b_LA_law 890 = .ok (.i2l, 1) := by decide +kernel
theorem d_LA_law_891 : decode b_LA_law 891 = .ok (.lcmp, 1) := by decide +kernel
theorem d_LA_law_892 : decode b_LA_law 892 = .ok (.ifCond .eq 5, 3) := by decide +kernel
theorem d_LA_law_895 : decode b_LA_law 895 = .ok (.iconst 0, 1) := by decide +kernel
theorem d_LA_law_896 : decode b_LA_law 896 = .ok (.ireturn, 1) := by decide +kernel
theorem d_LA_law_897 : decode b_LA_law 897 = .ok (.goto 28, 3) := by decide +kernel
theorem d_LA_law_900 : decode b_LA_law 900 = .ok (.aload_n 1, 1) := by decide +kernel
theorem d_LA_law_901 : decode b_LA_law 901 = .ok (.aload_n 0, 1) := by decide +kernel
theorem d_LA_law_902 : decode b_LA_law 902 = .ok (.iload 4, 2) := by decide +kernel
theorem d_LA_law_904 : decode b_LA_law 904 = .ok (.iconst 1, 1) := by decide +kernel
theorem d_LA_law_905 : decode b_LA_law 905 = .ok (.iadd, 1) := by decide +kernel
theorem d_LA_law_906 : decode b_LA_law 906 = .ok (.iaload, 1) := by decide +kernel
theorem d_LA_law_907 : decode b_LA_law 907 = .ok (.invokevirtual 108, 3) := by decide +kernel
theorem d_LA_law_910 : decode b_LA_law 910 = .ok (.aload_n 2, 1) := by decide +kernel
theorem d_LA_law_911 : decode b_LA_law 911 = .ok (.aload_n 0, 1) := by decide +kernel
theorem d_LA_law_912 : decode b_LA_law 912 = .ok (.iload 4, 2) := by decide +kernel
theorem d_LA_law_914 : decode b_LA_law 914 = .ok (.iconst 1, 1) := by decide +kernel
theorem d_LA_law_915 : decode b_LA_law 915 = .ok (.iadd, 1) := by decide +kernel
theorem d_LA_law_916 : decode b_LA_law 916 = .ok (.iaload, 1) := by decide +kernel
theorem d_LA_law_917 : decode b_LA_law 917 = .ok (.invokevirtual 111, 3) := by decide +kernel
theorem d_LA_law_920 : decode b_LA_law 920 = .ok (.if_icmp .eq 5, 3) := by decide +kernel
theorem d_LA_law_923 : decode b_LA_law 923 = .ok (.iconst 0, 1) := by decide +kernel
theorem d_LA_law_924 : decode b_LA_law 924 = .ok (.ireturn, 1) := by decide +kernel
theorem d_LA_law_925 : decode b_LA_law 925 = .ok (.iinc 4 5, 3) := by decide +kernel
theorem d_LA_law_928 : decode b_LA_law 928 = .ok (.goto (-905), 3) := by decide +kernel
theorem d_LA_law_931 : decode b_LA_law 931 = .ok (.iconst 1, 1) := by decide +kernel
theorem d_LA_law_932 : decode b_LA_law 932 = .ok (.ireturn, 1) := by decide +kernel
