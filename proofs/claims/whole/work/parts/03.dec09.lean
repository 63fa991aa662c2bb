theorem d_L_law_500 : decode code 500 = .ok (.aload_n 3, 1) := by decide +kernel
theorem d_L_law_501 : decode code 501 = .ok (.invokestatic 108, 3) := by decide +kernel
theorem d_L_law_504 : decode code 504 = .ok (.istore 5, 2) := by decide +kernel
theorem d_L_law_506 : decode code 506 = .ok (.aload_n 2, 1) := by decide +kernel
theorem d_L_law_507 : decode code 507 = .ok (.invokevirtual 111, 3) := by decide +kernel
theorem d_L_law_510 : decode code 510 = .ok (.istore 6, 2) := by decide +kernel
theorem d_L_law_512 : decode code 512 = .ok (.aload_n 2, 1) := by decide +kernel
theorem d_L_law_513 : decode code 513 = .ok (.invokevirtual 86, 3) := by decide +kernel
theorem d_L_law_516 : decode code 516 = .ok (.iload 5, 2) := by decide +kernel
theorem d_L_law_518 : decode code 518 = .ok (.if_icmp .eq 5, 3) := by decide +kernel
theorem d_L_law_521 : decode code 521 = .ok (.iconst 0, 1) := by decide +kernel
theorem d_L_law_522 : decode code 522 = .ok (.ireturn, 1) := by decide +kernel
theorem d_L_law_523 : decode code 523 = .ok (.iload 5, 2) := by decide +kernel
theorem d_L_law_525 : decode code 525 = .ok (.ifCond .ne 15, 3) := by decide +kernel
theorem d_L_law_528 : decode code 528 = .ok (.aload_n 3, 1) := by decide +kernel
theorem d_L_law_529 : decode code 529 = .ok (.iconst 0, 1) := by decide +kernel
theorem d_L_law_530 : decode code 530 = .ok (.laload, 1) := by decide +kernel
theorem d_L_law_531 : decode code 531 = .ok (.iload 6, 2) := by decide +kernel
theorem d_L_law_533 : decode code 533 = .ok (.i2l, 1) := by decide +kernel
theorem d_L_law_534 : decode code 534 = .ok (.lcmp, 1) := by decide +kernel
theorem d_L_law_535 : decode code 535 = .ok (.ifCond .eq 5, 3) := by decide +kernel
theorem d_L_law_538 : decode code 538 = .ok (.iconst 0, 1) := by decide +kernel
theorem d_L_law_539 : decode code 539 = .ok (.ireturn, 1) := by decide +kernel
theorem d_L_law_540 : decode code 540 = .ok (.goto 506, 3) := by decide +kernel
theorem d_L_law_543 : decode code 543 = .ok (.aload_n 1, 1) := by decide +kernel
theorem d_L_law_544 : decode code 544 = .ok (.aload_n 0, 1) := by decide +kernel
theorem d_L_law_545 : decode code 545 = .ok (.iload 4, 2) := by decide +kernel
theorem d_L_law_547 : decode code 547 = .ok (.iconst 1, 1) := by decide +kernel
theorem d_L_law_548 : decode code 548 = .ok (.iadd, 1) := by decide +kernel
theorem d_L_law_549 : decode code 549 = .ok (.iaload, 1) := by decide +kernel
theorem d_L_law_550 : decode code 550 = .ok (.invokestatic 112, 3) := by decide +kernel
theorem d_L_law_553 : decode code 553 = .ok (.istore 5, 2) := by decide +kernel
theorem d_L_law_555 : decode code 555 = .ok (.aload_n 2, 1) := by decide +kernel
theorem d_L_law_556 : decode code 556 = .ok (.aload_n 0, 1) := by decide +kernel
theorem d_L_law_557 : decode code 557 = .ok (.iload 4, 2) := by decide +kernel
theorem d_L_law_559 : decode code 559 = .ok (.iconst 1, 1) := by decide +kernel
theorem d_L_law_560 : decode code 560 = .ok (.iadd, 1) := by decide +kernel
theorem d_L_law_561 : decode code 561 = .ok (.iaload, 1) := by decide +kernel
theorem d_L_law_562 : decode code 562 = .ok (.invokevirtual 115, 3) := by decide +kernel
theorem d_L_law_565 : decode code 565 = .ok (.aload_n 2, 1) := by decide +kernel
theorem d_L_law_566 : decode code 566 = .ok (.invokevirtual 86, 3) := by decide +kernel
theorem d_L_law_569 : decode code 569 = .ok (.iload 5, 2) := by decide +kernel
theorem d_L_law_571 : decode code 571 = .ok (.if_icmp .eq 5, 3) := by decide +kernel
theorem d_L_law_574 : decode code 574 = .ok (.iconst 0, 1) := by decide +kernel
theorem d_L_law_575 : decode code 575 = .ok (.ireturn, 1) := by decide +kernel
theorem d_L_law_576 : decode code 576 = .ok (.goto 470, 3) := by decide +kernel
theorem d_L_law_579 : decode code 579 = .ok (.aload_n 1, 1) := by decide +kernel
theorem d_L_law_580 : decode code 580 = .ok (.aload_n 0, 1) := by decide +kernel
theorem d_L_law_581 : decode code 581 = .ok (.iload 4, 2) := by decide +kernel
theorem d_L_law_583 : decode code 583 = .ok (.iconst 1, 1) := by decide +kernel
theorem d_L_law_584 : decode code 584 = .ok (.iadd, 1) := by decide +kernel
theorem d_L_law_585 : decode code 585 = .ok (.iaload, 1) := by decide +kernel
theorem d_L_law_586 : decode code 586 = .ok (.aload_n 3, 1) := by decide +kernel
theorem d_L_law_587 : decode code 587 = .ok (.invokestatic 116, 3) := by decide +kernel
theorem d_L_law_590 : decode code 590 = .ok (.istore 5, 2) := by decide +kernel
theorem d_L_law_592 : decode code 592 = .ok (.aload_n 2, 1) := by decide +kernel
theorem d_L_law_593 : decode code 593 = .ok (.aload_n 0, 1) := by decide +kernel
theorem d_L_law_594 : decode code 594 = .ok (.iload 4, 2) := by decide +kernel
theorem d_L_law_596 : decode code 596 = .ok (.iconst 1, 1) := by decide +kernel
theorem d_L_law_597 : decode code 597 = .ok (.iadd, 1) := by decide +kernel
theorem d_L_law_598 : decode code 598 = .ok (.iaload, 1) := by decide +kernel
theorem d_L_law_599 : decode code 599 = .ok (.invokevirtual 118, 3) := by decide +kernel
theorem d_L_law_602 : decode code 602 = .ok (.istore 6, 2) := by decide +kernel
theorem d_L_law_604 : decode code 604 = .ok (.aload_n 2, 1) := by decide +kernel
theorem d_L_law_605 : decode code 605 = .ok (.invokevirtual 86, 3) := by decide +kernel
theorem d_L_law_608 : decode code 608 = .ok (.iload 5, 2) := by decide +kernel
theorem d_L_law_610 : decode code 610 = .ok (.if_icmp .eq 5, 3) := by decide +kernel
theorem d_L_law_613 : decode code 613 = .ok (.iconst 0, 1) := by decide +kernel
theorem d_L_law_614 : decode code 614 = .ok (.ireturn, 1) := by decide +kernel
theorem d_L_law_615 : decode code 615 = .ok (.iload 5, 2) := by decide +kernel
theorem d_L_law_617 : decode code 617 = .ok (.ifCond .ne 15, 3) := by decide +kernel
theorem d_L_law_620 : decode code 620 = .ok (.aload_n 3, 1) := by decide +kernel
theorem d_L_law_621 : decode code 621 = .ok (.iconst 0, 1) := by decide +kernel
theorem d_L_law_622 : decode code 622 = .ok (.laload, 1) := by decide +kernel
theorem d_L_law_623 : decode code 623 = .ok (.iload 6, 2) := by decide +kernel
theorem d_L_law_625 : decode code 625 = .ok (.i2l, 1) := by decide +kernel
theorem d_L_law_626 : decode code 626 = .ok (.lcmp, 1) := by decide +kernel
theorem d_L_law_627 : decode code 627 = .ok (.ifCond .eq 5, 3) := by decide +kernel
theorem d_L_law_630 : decode code 630 = .ok (.iconst 0, 1) := by decide +kernel
theorem d_L_law_631 : decode code 631 = .ok (.ireturn, 1) := by decide +kernel
theorem d_L_law_632 : decode code 632 = .ok (.goto 414, 3) := by decide +kernel
theorem d_L_law_635 : decode code 635 = .ok (.aload_n 1, 1) := by decide +kernel
theorem d_L_law_636 : decode code 636 = .ok (.aload_n 0, 1) := by decide +kernel
theorem d_L_law_637 : decode code 637 = .ok (.iload 4, 2) := by decide +kernel
theorem d_L_law_639 : decode code 639 = .ok (.iconst 1, 1) := by decide +kernel
theorem d_L_law_640 : decode code 640 = .ok (.iadd, 1) := by decide +kernel
theorem d_L_law_641 : decode code 641 = .ok (.iaload, 1) := by decide +kernel
theorem d_L_law_642 : decode code 642 = .ok (.aload_n 3, 1) := by decide +kernel
theorem d_L_law_643 : decode code 643 = .ok (.invokestatic 119, 3) := by decide +kernel
theorem d_L_law_646 : decode code 646 = .ok (.istore 5, 2) := by decide +kernel
theorem d_L_law_648 : decode code 648 = .ok (.aload_n 2, 1) := by decide +kernel
theorem d_L_law_649 : decode code 649 = .ok (.aload_n 0, 1) := by decide +kernel
theorem d_L_law_650 : decode code 650 = .ok (.iload 4, 2) := by decide +kernel
theorem d_L_law_652 : decode code 652 = .ok (.iconst 1, 1) := by decide +kernel
theorem d_L_law_653 : decode code 653 = .ok (.iadd, 1) := by decide +kernel
theorem d_L_law_654 : decode code 654 = .ok (.iaload, 1) := by decide +kernel
theorem d_L_law_655 : decode code 655 = .ok (.invokevirtual 121, 3) := by decide +kernel
theorem d_L_law_658 : decode code 658 = .ok (.istore 6, 2) := by decide +kernel
theorem d_L_law_660 : decode code 660 = .ok (.aload_n 2, 1) := by decide +kernel
theorem d_L_law_661 : decode code 661 = .ok (.invokevirtual 86, 3) := by decide +kernel
theorem d_L_law_664 : decode code 664 = .ok (.iload 5, 2) := by decide +kernel
theorem d_L_law_666 : decode code 666 = .ok (.if_icmp .eq 5, 3) := by decide +kernel
theorem d_L_law_669 : decode code 669 = .ok (.iconst 0, 1) := by decide +kernel
theorem d_L_law_670 : decode code 670 = .ok (.ireturn, 1) := by decide +kernel
theorem d_L_law_671 : decode code 671 = .ok (.iload 5, 2) := by decide +kernel
theorem d_L_law_673 : decode code 673 = .ok (.ifCond .ne 15, 3) := by decide +kernel
theorem d_L_law_676 : decode code 676 = .ok (.aload_n 3, 1) := by decide +kernel
theorem d_L_law_677 : decode code 677 = .ok (.iconst 0, 1) := by decide +kernel
theorem d_L_law_678 : decode code 678 = .ok (.laload, 1) := by decide +kernel
theorem d_L_law_679 : decode code 679 = .ok (.iload 6, 2) := by decide +kernel
theorem d_L_law_681 : decode code 681 = .ok (.i2l, 1) := by decide +kernel
theorem d_L_law_682 : decode code 682 = .ok (.lcmp, 1) := by decide +kernel
theorem d_L_law_683 : decode code 683 = .ok (.ifCond .eq 5, 3) := by decide +kernel
theorem d_L_law_686 : decode code 686 = .ok (.iconst 0, 1) := by decide +kernel
theorem d_L_law_687 : decode code 687 = .ok (.ireturn, 1) := by decide +kernel
theorem d_L_law_688 : decode code 688 = .ok (.goto 358, 3) := by decide +kernel
theorem d_L_law_691 : decode code 691 = .ok (.aload_n 1, 1) := by decide +kernel
theorem d_L_law_692 : decode code 692 = .ok (.aload_n 0, 1) := by decide +kernel
theorem d_L_law_693 : decode code 693 = .ok (.iload 4, 2) := by decide +kernel
theorem d_L_law_695 : decode code 695 = .ok (.iconst 1, 1) := by decide +kernel
theorem d_L_law_696 : decode code 696 = .ok (.iadd, 1) := by decide +kernel
theorem d_L_law_697 : decode code 697 = .ok (.iaload, 1) := by decide +kernel
theorem d_L_law_698 : decode code 698 = .ok (.aload_n 3, 1) := by decide +kernel
theorem d_L_law_699 : decode code 699 = .ok (.invokestatic 122, 3) := by decide +kernel
theorem d_L_law_702 : decode code 702 = .ok (.istore 5, 2) := by decide +kernel
theorem d_L_law_704 : decode code 704 = .ok (.aload_n 2, 1) := by decide +kernel
theorem d_L_law_705 : decode code 705 = .ok (.aload_n 0, 1) := by decide +kernel
theorem d_L_law_706 : decode code 706 = .ok (.iload 4, 2) := by decide +kernel
theorem d_L_law_708 : decode code 708 = .ok (.iconst 1, 1) := by decide +kernel
theorem d_L_law_709 : decode code 709 = .ok (.iadd, 1) := by decide +kernel
theorem d_L_law_710 : decode code 710 = .ok (.iaload, 1) := by decide +kernel
theorem d_L_law_711 : decode code 711 = .ok (.invokevirtual 124, 3) := by decide +kernel
theorem d_L_law_714 : decode code 714 = .ok (.istore 6, 2) := by decide +kernel
theorem d_L_law_716 : decode code 716 = .ok (.aload_n 2, 1) := by decide +kernel
theorem d_L_law_717 : decode code 717 = .ok (.invokevirtual 86, 3) := by decide +kernel
theorem d_L_law_720 : decode code 720 = .ok (.iload 5, 2) := by decide +kernel
theorem d_L_law_722 : decode code 722 = .ok (.if_icmp .eq 5, 3) := by decide +kernel
theorem d_L_law_725 : decode code 725 = .ok (.iconst 0, 1) := by decide +kernel
theorem d_L_law_726 : decode code 726 = .ok (.ireturn, 1) := by decide +kernel
theorem d_L_law_727 : decode code 727 = .ok (.iload 5, 2) := by decide +kernel
theorem d_L_law_729 : decode code 729 = .ok (.ifCond .ne 22, 3) := by decide +kernel
theorem d_L_law_732 : decode code 732 = .ok (.aload_n 3, 1) := by decide +kernel
theorem d_L_law_733 : decode code 733 = .ok (.iconst 0, 1) := by decide +kernel
theorem d_L_law_734 : decode code 734 = .ok (.laload, 1) := by decide +kernel
theorem d_L_law_735 : decode code 735 = .ok (.iload 6, 2) := by decide +kernel
theorem d_L_law_737 : decode code 737 = .ok (.ifCond .eq 7, 3) := by decide +kernel
theorem d_L_law_740 : decode code 740 = .ok (.lconst 1, 1) := by decide +kernel
theorem d_L_law_741 : decode code 741 = .ok (.goto 4, 3) := by decide +kernel
theorem d_L_law_744 : decode code 744 = .ok (.lconst 0, 1) := by decide +kernel
theorem d_L_law_745 : decode code 745 = .ok (.lcmp, 1) := by decide +kernel
theorem d_L_law_746 : decode code 746 = .ok (.ifCond .eq 5, 3) := by decide +kernel
theorem d_L_law_749 : decode code 749 = .ok (.iconst 0, 1) := by decide +kernel
theorem d_L_law_750 : decode code 750 = .ok (.ireturn, 1) := by decide +kernel
theorem d_L_law_751 : decode code 751 = .ok (.goto 295, 3) := by decide +kernel
theorem d_L_law_754 : decode code 754 = .ok (.aload_n 1, 1) := by decide +kernel
theorem d_L_law_755 : decode code 755 = .ok (.aload_n 0, 1) := by decide +kernel
theorem d_L_law_756 : decode code 756 = .ok (.iload 4, 2) := by decide +kernel
theorem d_L_law_758 : decode code 758 = .ok (.iconst 1, 1) := by decide +kernel
theorem d_L_law_759 : decode code 759 = .ok (.iadd, 1) := by decide +kernel
theorem d_L_law_760 : decode code 760 = .ok (.iaload, 1) := by decide +kernel
theorem d_L_law_761 : decode code 761 = .ok (.aload_n 3, 1) := by decide +kernel
theorem d_L_law_762 : decode code 762 = .ok (.invokestatic 125, 3) := by decide +kernel
theorem d_L_law_765 : decode code 765 = .ok (.istore 5, 2) := by decide +kernel
theorem d_L_law_767 : decode code 767 = .ok (.aload_n 2, 1) := by decide +kernel
theorem d_L_law_768 : decode code 768 = .ok (.aload_n 0, 1) := by decide +kernel
theorem d_L_law_769 : decode code 769 = .ok (.iload 4, 2) := by decide +kernel
theorem d_L_law_771 : decode code 771 = .ok (.iconst 1, 1) := by decide +kernel
theorem d_L_law_772 : decode code 772 = .ok (.iadd, 1) := by decide +kernel
theorem d_L_law_773 : decode code 773 = .ok (.iaload, 1) := by decide +kernel
theorem d_L_law_774 : decode code 774 = .ok (.invokevirtual 127, 3) := by decide +kernel
theorem d_L_law_777 : decode code 777 = .ok (.istore 6, 2) := by decide +kernel
theorem d_L_law_779 : decode code 779 = .ok (.aload_n 2, 1) := by decide +kernel
theorem d_L_law_780 : decode code 780 = .ok (.invokevirtual 86, 3) := by decide +kernel
theorem d_L_law_783 : decode code 783 = .ok (.iload 5, 2) := by decide +kernel
theorem d_L_law_785 : decode code 785 = .ok (.if_icmp .eq 5, 3) := by decide +kernel
theorem d_L_law_788 : decode code 788 = .ok (.iconst 0, 1) := by decide +kernel
theorem d_L_law_789 : decode code 789 = .ok (.ireturn, 1) := by decide +kernel
theorem d_L_law_790 : decode code 790 = .ok (.iload 5, 2) := by decide +kernel
theorem d_L_law_792 : decode code 792 = .ok (.ifCond .ne 15, 3) := by decide +kernel
theorem d_L_law_795 : decode code 795 = .ok (.aload_n 3, 1) := by decide +kernel
theorem d_L_law_796 : decode code 796 = .ok (.iconst 0, 1) := by decide +kernel
theorem d_L_law_797 : decode code 797 = .ok (.laload, 1) := by decide +kernel
theorem d_L_law_798 : decode code 798 = .ok (.iload 6, 2) := by decide +kernel
theorem d_L_law_800 : decode code 800 = .ok (.i2l, 1) := by decide +kernel
theorem d_L_law_801 : decode code 801 = .ok (.lcmp, 1) := by decide +kernel
theorem d_L_law_802 : decode code 802 = .ok (.ifCond .eq 5, 3) := by decide +kernel
theorem d_L_law_805 : decode code 805 = .ok (.iconst 0, 1) := by decide +kernel
theorem d_L_law_806 : decode code 806 = .ok (.ireturn, 1) := by decide +kernel
theorem d_L_law_807 : decode code 807 = .ok (.goto 239, 3) := by decide +kernel
theorem d_L_law_810 : decode code 810 = .ok (.aload_n 1, 1) := by decide +kernel
theorem d_L_law_811 : decode code 811 = .ok (.aload_n 0, 1) := by decide +kernel
theorem d_L_law_812 : decode code 812 = .ok (.iload 4, 2) := by decide +kernel
theorem d_L_law_814 : decode code 814 = .ok (.iconst 1, 1) := by decide +kernel
theorem d_L_law_815 : decode code 815 = .ok (.iadd, 1) := by decide +kernel
theorem d_L_law_816 : decode code 816 = .ok (.iaload, 1) := by decide +kernel
theorem d_L_law_817 : decode code 817 = .ok (.aload_n 3, 1) := by decide +kernel
theorem d_L_law_818 : decode code 818 = .ok (.invokestatic 128, 3) := by decide +kernel
theorem d_L_law_821 : decode code 821 = .ok (.istore 5, 2) := by decide +kernel
theorem d_L_law_823 : decode code 823 = .ok (.aload_n 2, 1) := by decide +kernel
theorem d_L_law_824 : decode code 824 = .ok (.aload_n 0, 1) := by decide +kernel
theorem d_L_law_825 : decode code 825 = .ok (.iload 4, 2) := by decide +kernel
theorem d_L_law_827 : decode code 827 = .ok (.iconst 1, 1) := by decide +kernel
theorem d_L_law_828 : decode code 828 = .ok (.iadd, 1) := by decide +kernel
theorem d_L_law_829 : decode code 829 = .ok (.iaload, 1) := by decide +kernel
theorem d_L_law_830 : decode code 830 = .ok (.invokevirtual 130, 3) := by decide +kernel
theorem d_L_law_833 : decode code 833 = .ok (.istore 6, 2) := by decide +kernel
theorem d_L_law_835 : decode code 835 = .ok (.aload_n 2, 1) := by decide +kernel
theorem d_L_law_836 : decode code 836 = .ok (.invokevirtual 86, 3) := by decide +kernel
theorem d_L_law_839 : decode code 839 = .ok (.iload 5, 2) := by decide +kernel
theorem d_L_law_841 : decode code 841 = .ok (.if_icmp .eq 5, 3) := by decide +kernel
theorem d_L_law_844 : decode code 844 = .ok (.iconst 0, 1) := by decide +kernel
theorem d_L_law_845 : decode code 845 = .ok (.ireturn, 1) := by decide +kernel
theorem d_L_law_846 : decode code 846 = .ok (.iload 5, 2) := by decide +kernel
theorem d_L_law_848 : decode code 848 = .ok (.ifCond .ne 15, 3) := by decide +kernel
theorem d_L_law_851 : decode code 851 = .ok (.aload_n 3, 1) := by decide +kernel
theorem d_L_law_852 : decode code 852 = .ok (.iconst 0, 1) := by decide +kernel
theorem d_L_law_853 : decode code 853 = .ok (.laload, 1) := by decide +kernel
theorem d_L_law_854 : decode code 854 = .ok (.iload 6, 2) := by decide +kernel
theorem d_L_law_856 : decode code 856 = .ok (.i2l, 1) := by decide +kernel
theorem d_L_law_857 : decode code 857 = .ok (.lcmp, 1) := by decide +kernel
theorem d_L_law_858 : decode code 858 = .ok (.ifCond .eq 5, 3) := by decide +kernel
theorem d_L_law_861 : decode code 861 = .ok (.iconst 0, 1) := by decide +kernel
theorem d_L_law_862 : decode code 862 = .ok (.ireturn, 1) := by decide +kernel
theorem d_L_law_863 : decode code 863 = .ok (.goto 183, 3) := by decide +kernel
theorem d_L_law_866 : decode code 866 = .ok (.aload_n 1, 1) := by decide +kernel
theorem d_L_law_867 : decode code 867 = .ok (.aload_n 0, 1) := by decide +kernel
theorem d_L_law_868 : decode code 868 = .ok (.iload 4, 2) := by decide +kernel
theorem d_L_law_870 : decode code 870 = .ok (.iconst 1, 1) := by decide +kernel
theorem d_L_law_871 : decode code 871 = .ok (.iadd, 1) := by decide +kernel
theorem d_L_law_872 : decode code 872 = .ok (.iaload, 1) := by decide +kernel
theorem d_L_law_873 : decode code 873 = .ok (.aload_n 3, 1) := by decide +kernel
theorem d_L_law_874 : decode code 874 = .ok (.invokestatic 131, 3) := by decide +kernel
theorem d_L_law_877 : decode code 877 = .ok (.istore 5, 2) := by decide +kernel
theorem d_L_law_879 : decode code 879 = .ok (.aload_n 2, 1) := by decide +kernel
theorem d_L_law_880 : decode code 880 = .ok (.aload_n 0, 1) := by decide +kernel
theorem d_L_law_881 : decode code 881 = .ok (.iload 4, 2) := by decide +kernel
theorem d_L_law_883 : decode code 883 = .ok (.iconst 1, 1) := by decide +kernel
theorem d_L_law_884 : decode code 884 = .ok (.iadd, 1) := by decide +kernel
theorem d_L_law_885 : decode code 885 = .ok (.iaload, 1) := by decide +kernel
theorem d_L_law_886 : decode code 886 = .ok (.invokevirtual 133, 3) := by decide +kernel
theorem d_L_law_889 : decode code 889 = .ok (.istore 6, 2) := by decide +kernel
theorem d_L_law_891 : decode code 891 = .ok (.aload_n 2, 1) := by decide +kernel
theorem d_L_law_892 : decode code 892 = .ok (.invokevirtual 86, 3) := by decide +kernel
theorem d_L_law_895 : decode code 895 = .ok (.iload 5, 2) := by decide +kernel
theorem d_L_law_897 : decode code 897 = .ok (.if_icmp .eq 5, 3) := by decide +kernel
theorem d_L_law_900 : decode code 900 = .ok (.iconst 0, 1) := by decide +kernel
theorem d_L_law_901 : decode code 901 = .ok (.ireturn, 1) := by decide +kernel
theorem d_L_law_902 : decode code 902 = .ok (.iload 5, 2) := by decide +kernel
theorem d_L_law_904 : decode code 904 = .ok (.ifCond .ne 15, 3) := by decide +kernel
theorem d_L_law_907 : decode code 907 = .ok (.aload_n 3, 1) := by decide +kernel
theorem d_L_law_908 : decode code 908 = .ok (.iconst 0, 1) := by decide +kernel
theorem d_L_law_909 : decode code 909 = .ok (.laload, 1) := by decide +kernel
theorem d_L_law_910 : decode code 910 = .ok (.iload 6, 2) := by decide +kernel
theorem d_L_law_912 : decode code 912 = .ok (.i2l, 1) := by decide +kernel
theorem d_L_law_913 : decode code 913 = .ok (.lcmp, 1) := by decide +kernel
theorem d_L_law_914 : decode code 914 = .ok (.ifCond .eq 5, 3) := by decide +kernel
theorem d_L_law_917 : decode code 917 = .ok (.iconst 0, 1) := by decide +kernel
theorem d_L_law_918 : decode code 918 = .ok (.ireturn, 1) := by decide +kernel
theorem d_L_law_919 : decode code 919 = .ok (.goto 127, 3) := by decide +kernel
theorem d_L_law_922 : decode code 922 = .ok (.aload_n 1, 1) := by decide +kernel
theorem d_L_law_923 : decode code 923 = .ok (.aload_n 0, 1) := by decide +kernel
theorem d_L_law_924 : decode code 924 = .ok (.iload 4, 2) := by decide +kernel
theorem d_L_law_926 : decode code 926 = .ok (.iconst 1, 1) := by decide +kernel
theorem d_L_law_927 : decode code 927 = .ok (.iadd, 1) := by decide +kernel
theorem d_L_law_928 : decode code 928 = .ok (.iaload, 1) := by decide +kernel
theorem d_L_law_929 : decode code 929 = .ok (.aload_n 0, 1) := by decide +kernel
theorem d_L_law_930 : decode code 930 = .ok (.iload 4, 2) := by decide +kernel
theorem d_L_law_932 : decode code 932 = .ok (.iconst 2, 1) := by decide +kernel
theorem d_L_law_933 : decode code 933 = .ok (.iadd, 1) := by decide +kernel
theorem d_L_law_934 : decode code 934 = .ok (.iaload, 1) := by decide +kernel
theorem d_L_law_935 : decode code 935 = .ok (.aload_n 3, 1) := by decide +kernel
theorem d_L_law_936 : decode code 936 = .ok (.invokestatic 134, 3) := by decide +kernel
theorem d_L_law_939 : decode code 939 = .ok (.istore 5, 2) := by decide +kernel
theorem d_L_law_941 : decode code 941 = .ok (.aload_n 2, 1) := by decide +kernel
theorem d_L_law_942 : decode code 942 = .ok (.aload_n 0, 1) := by decide +kernel
theorem d_L_law_943 : decode code 943 = .ok (.iload 4, 2) := by decide +kernel
theorem d_L_law_945 : decode code 945 = .ok (.iconst 1, 1) := by decide +kernel
theorem d_L_law_946 : decode code 946 = .ok (.iadd, 1) := by decide +kernel
theorem d_L_law_947 : decode code 947 = .ok (.iaload, 1) := by decide +kernel
theorem d_L_law_948 : decode code 948 = .ok (.aload_n 0, 1) := by decide +kernel
theorem d_L_law_949 : decode code 949 = .ok (.iload 4, 2) := by decide +kernel
theorem d_L_law_951 : decode code 951 = .ok (.iconst 2, 1) := by decide +kernel
theorem d_L_law_952 : decode code 952 = .ok (.iadd, 1) := by decide +kernel
theorem d_L_law_953 : decode code 953 = .ok (.iaload, 1) := by decide +kernel
theorem d_L_law_954 : decode code 954 = .ok (.invokevirtual 136, 3) := by decide +kernel
theorem d_L_law_957 : decode code 957 = .ok (.istore 6, 2) := by decide +kernel
theorem d_L_law_959 : decode code 959 = .ok (.aload_n 2, 1) := by decide +kernel
theorem d_L_law_960 : decode code 960 = .ok (.invokevirtual 86, 3) := by decide +kernel
theorem d_L_law_963 : decode code 963 = .ok (.iload 5, 2) := by decide +kernel
theorem d_L_law_965 : decode code 965 = .ok (.if_icmp .eq 5, 3) := by decide +kernel
theorem d_L_law_968 : decode code 968 = .ok (.iconst 0, 1) := by decide +kernel
theorem d_L_law_969 : decode code 969 = .ok (.ireturn, 1) := by decide +kernel
theorem d_L_law_970 : decode code 970 = .ok (.iload 5, 2) := by decide +kernel
theorem d_L_law_972 : decode code 972 = .ok (.ifCond .ne 15, 3) := by decide +kernel
theorem d_L_law_975 : decode code 975 = .ok (.aload_n 3, 1) := by decide +kernel
theorem d_L_law_976 : decode code 976 = .ok (.iconst 0, 1) := by decide +kernel
theorem d_L_law_977 : decode code 977 = .ok (.laload, 1) := by decide +kernel
theorem d_L_law_978 : decode code 978 = .ok (.iload 6, 2) := by decide +kernel
theorem d_L_law_980 : decode code 980 = .ok (.i2l, 1) := by decide +kernel
theorem d_L_law_981 : decode code 981 = .ok (.lcmp, 1) := by decide +kernel
theorem d_L_law_982 : decode code 982 = .ok (.ifCond .eq 5, 3) := by decide +kernel
theorem d_L_law_985 : decode code 985 = .ok (.iconst 0, 1) := by decide +kernel
theorem d_L_law_986 : decode code 986 = .ok (.ireturn, 1) := by decide +kernel
theorem d_L_law_987 : decode code 987 = .ok (.goto 59, 3) := by decide +kernel
theorem d_L_law_990 : decode code 990 = .ok (.aload_n 1, 1) := by decide +kernel
theorem d_L_law_991 : decode code 991 = .ok (.aload_n 0, 1) := by decide +kernel
theorem d_L_law_992 : decode code 992 = .ok (.iload 4, 2) := by decide +kernel
theorem d_L_law_994 : decode code 994 = .ok (.iconst 1, 1) := by decide +kernel
theorem d_L_law_995 : decode code 995 = .ok (.iadd, 1) := by decide +kernel
theorem d_L_law_996 : decode code 996 = .ok (.iaload, 1) := by decide +kernel
theorem d_L_law_997 : decode code 997 = .ok (.aload_n 3, 1) := by decide +kernel
theorem d_L_law_998 : decode code 998 = .ok (.invokestatic 137, 3) := by decide +kernel
theorem d_L_law_1001 : decode code 1001 = .ok (.istore 5, 2) := by decide +kernel
theorem d_L_law_1003 : decode code 1003 = .ok (.aload_n 2, 1) := by decide +kernel
theorem d_L_law_1004 : decode code 1004 = .ok (.aload_n 0, 1) := by decide +kernel
theorem d_L_law_1005 : decode code 1005 = .ok (.iload 4, 2) := by decide +kernel
theorem d_L_law_1007 : decode code 1007 = .ok (.iconst 1, 1) := by decide +kernel
theorem d_L_law_1008 : decode code 1008 = .ok (.iadd, 1) := by decide +kernel
theorem d_L_law_1009 : decode code 1009 = .ok (.iaload, 1) := by decide +kernel
theorem d_L_law_1010 : decode code 1010 = .ok (.invokevirtual 139, 3) := by decide +kernel
theorem d_L_law_1013 : decode code 1013 = .ok (.istore 6, 2) := by decide +kernel
theorem d_L_law_1015 : decode code 1015 = .ok (.aload_n 2, 1) := by decide +kernel
theorem d_L_law_1016 : decode code 1016 = .ok (.invokevirtual 86, 3) := by decide +kernel
theorem d_L_law_1019 : decode code 1019 = .ok (.iload 5, 2) := by decide +kernel
theorem d_L_law_1021 : decode code 1021 = .ok (.if_icmp .eq 5, 3) := by decide +kernel
theorem d_L_law_1024 : decode code 1024 = .ok (.iconst 0, 1) := by decide +kernel
theorem d_L_law_1025 : decode code 1025 = .ok (.ireturn, 1) := by decide +kernel
theorem d_L_law_1026 : decode code 1026 = .ok (.iload 5, 2) := by decide +kernel
theorem d_L_law_1028 : decode code 1028 = .ok (.ifCond .ne 15, 3) := by decide +kernel
theorem d_L_law_1031 : decode code 1031 = .ok (.aload_n 3, 1) := by decide +kernel
theorem d_L_law_1032 : decode code 1032 = .ok (.iconst 0, 1) := by decide +kernel
theorem d_L_law_1033 : decode code 1033 = .ok (.laload, 1) := by decide +kernel
theorem d_L_law_1034 : decode code 1034 = .ok (.iload 6, 2) := by decide +kernel
theorem d_L_law_1036 : decode code 1036 = .ok (.i2l, 1) := by decide +kernel
theorem d_L_law_1037 : decode code 1037 = .ok (.lcmp, 1) := by decide +kernel
theorem d_L_law_1038 : decode code 1038 = .ok (.ifCond .eq 5, 3) := by decide +kernel
theorem d_L_law_1041 : decode code 1041 = .ok (.iconst 0, 1) := by decide +kernel
theorem d_L_law_1042 : decode code 1042 = .ok (.ireturn, 1) := by decide +kernel
theorem d_L_law_1043 : decode code 1043 = .ok (.goto 3, 3) := by decide +kernel
theorem d_L_law_1046 : decode code 1046 = .ok (.iinc 4 5, 3) := by decide +kernel
theorem d_L_law_1049 : decode code 1049 = .ok (.goto (-1026), 3) := by decide +kernel
theorem d_L_law_1052 : decode code 1052 = .ok (.iconst 1, 1) := by decide +kernel
theorem d_L_law_1053 : decode code 1053 = .ok (.ireturn, 1) := by decide +kernel
