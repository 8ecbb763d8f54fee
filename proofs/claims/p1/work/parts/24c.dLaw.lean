theorem d_law_532 : decode code 532 = .ok (.aload_n 1, 1) := by decide +kernel
theorem d_law_533 : decode code 533 = .ok (.aload_n 0, 1) := by decide +kernel
theorem d_law_534 : decode code 534 = .ok (.iload 4, 2) := by decide +kernel
theorem d_law_536 : decode code 536 = .ok (.iconst 1, 1) := by decide +kernel
theorem d_law_537 : decode code 537 = .ok (.iadd, 1) := by decide +kernel
theorem d_law_538 : decode code 538 = .ok (.iaload, 1) := by decide +kernel
theorem d_law_539 : decode code 539 = .ok (.aload_n 0, 1) := by decide +kernel
theorem d_law_540 : decode code 540 = .ok (.iload 4, 2) := by decide +kernel
theorem d_law_542 : decode code 542 = .ok (.iconst 2, 1) := by decide +kernel
theorem d_law_543 : decode code 543 = .ok (.iadd, 1) := by decide +kernel
theorem d_law_544 : decode code 544 = .ok (.iaload, 1) := by decide +kernel
theorem d_law_545 : decode code 545 = .ok (.aload_n 0, 1) := by decide +kernel
theorem d_law_546 : decode code 546 = .ok (.iload 4, 2) := by decide +kernel
theorem d_law_548 : decode code 548 = .ok (.iconst 3, 1) := by decide +kernel
theorem d_law_549 : decode code 549 = .ok (.iadd, 1) := by decide +kernel
theorem d_law_550 : decode code 550 = .ok (.iaload, 1) := by decide +kernel
theorem d_law_551 : decode code 551 = .ok (.aload_n 0, 1) := by decide +kernel
theorem d_law_552 : decode code 552 = .ok (.iload 4, 2) := by decide +kernel
theorem d_law_554 : decode code 554 = .ok (.iconst 4, 1) := by decide +kernel
theorem d_law_555 : decode code 555 = .ok (.iadd, 1) := by decide +kernel
theorem d_law_556 : decode code 556 = .ok (.iaload, 1) := by decide +kernel
theorem d_law_557 : decode code 557 = .ok (.aload_n 0, 1) := by decide +kernel
theorem d_law_558 : decode code 558 = .ok (.iload 4, 2) := by decide +kernel
theorem d_law_560 : decode code 560 = .ok (.iconst 5, 1) := by decide +kernel
theorem d_law_561 : decode code 561 = .ok (.iadd, 1) := by decide +kernel
theorem d_law_562 : decode code 562 = .ok (.iaload, 1) := by decide +kernel
theorem d_law_563 : decode code 563 = .ok (.aload_n 3, 1) := by decide +kernel
theorem d_law_564 : decode code 564 = .ok (.invokestatic 72, 3) := by decide +kernel
theorem d_law_567 : decode code 567 = .ok (.istore 5, 2) := by decide +kernel
theorem d_law_569 : decode code 569 = .ok (.aload_n 2, 1) := by decide +kernel
theorem d_law_570 : decode code 570 = .ok (.aload_n 0, 1) := by decide +kernel
theorem d_law_571 : decode code 571 = .ok (.iload 4, 2) := by decide +kernel
theorem d_law_573 : decode code 573 = .ok (.iconst 1, 1) := by decide +kernel
theorem d_law_574 : decode code 574 = .ok (.iadd, 1) := by decide +kernel
theorem d_law_575 : decode code 575 = .ok (.iaload, 1) := by decide +kernel
theorem d_law_576 : decode code 576 = .ok (.aload_n 0, 1) := by decide +kernel
theorem d_law_577 : decode code 577 = .ok (.iload 4, 2) := by decide +kernel
theorem d_law_579 : decode code 579 = .ok (.iconst 2, 1) := by decide +kernel
theorem d_law_580 : decode code 580 = .ok (.iadd, 1) := by decide +kernel
theorem d_law_581 : decode code 581 = .ok (.iaload, 1) := by decide +kernel
theorem d_law_582 : decode code 582 = .ok (.aload_n 0, 1) := by decide +kernel
theorem d_law_583 : decode code 583 = .ok (.iload 4, 2) := by decide +kernel
theorem d_law_585 : decode code 585 = .ok (.iconst 3, 1) := by decide +kernel
theorem d_law_586 : decode code 586 = .ok (.iadd, 1) := by decide +kernel
theorem d_law_587 : decode code 587 = .ok (.iaload, 1) := by decide +kernel
theorem d_law_588 : decode code 588 = .ok (.aload_n 0, 1) := by decide +kernel
theorem d_law_589 : decode code 589 = .ok (.iload 4, 2) := by decide +kernel
theorem d_law_591 : decode code 591 = .ok (.iconst 4, 1) := by decide +kernel
theorem d_law_592 : decode code 592 = .ok (.iadd, 1) := by decide +kernel
theorem d_law_593 : decode code 593 = .ok (.iaload, 1) := by decide +kernel
theorem d_law_594 : decode code 594 = .ok (.aload_n 0, 1) := by decide +kernel
theorem d_law_595 : decode code 595 = .ok (.iload 4, 2) := by decide +kernel
theorem d_law_597 : decode code 597 = .ok (.iconst 5, 1) := by decide +kernel
theorem d_law_598 : decode code 598 = .ok (.iadd, 1) := by decide +kernel
theorem d_law_599 : decode code 599 = .ok (.iaload, 1) := by decide +kernel
theorem d_law_600 : decode code 600 = .ok (.invokevirtual 75, 3) := by decide +kernel
theorem d_law_603 : decode code 603 = .ok (.istore 6, 2) := by decide +kernel
theorem d_law_605 : decode code 605 = .ok (.aload_n 2, 1) := by decide +kernel
theorem d_law_606 : decode code 606 = .ok (.invokevirtual 55, 3) := by decide +kernel
theorem d_law_609 : decode code 609 = .ok (.iload 5, 2) := by decide +kernel
theorem d_law_611 : decode code 611 = .ok (.if_icmp .eq 5, 3) := by decide +kernel
theorem d_law_614 : decode code 614 = .ok (.iconst 0, 1) := by decide +kernel
theorem d_law_615 : decode code 615 = .ok (.ireturn, 1) := by decide +kernel
theorem d_law_616 : decode code 616 = .ok (.iload 5, 2) := by decide +kernel
theorem d_law_618 : decode code 618 = .ok (.ifCond .ne 15, 3) := by decide +kernel
theorem d_law_621 : decode code 621 = .ok (.aload_n 3, 1) := by decide +kernel
theorem d_law_622 : decode code 622 = .ok (.iconst 0, 1) := by decide +kernel
theorem d_law_623 : decode code 623 = .ok (.laload, 1) := by decide +kernel
theorem d_law_624 : decode code 624 = .ok (.iload 6, 2) := by decide +kernel
theorem d_law_626 : decode code 626 = .ok (.i2l, 1) := by decide +kernel
theorem d_law_627 : decode code 627 = .ok (.lcmp, 1) := by decide +kernel
theorem d_law_628 : decode code 628 = .ok (.ifCond .eq 5, 3) := by decide +kernel
theorem d_law_631 : decode code 631 = .ok (.iconst 0, 1) := by decide +kernel
theorem d_law_632 : decode code 632 = .ok (.ireturn, 1) := by decide +kernel
theorem d_law_633 : decode code 633 = .ok (.goto 331, 3) := by decide +kernel
theorem d_law_636 : decode code 636 = .ok (.aload_n 1, 1) := by decide +kernel
theorem d_law_637 : decode code 637 = .ok (.invokevirtual 76, 3) := by decide +kernel
theorem d_law_640 : decode code 640 = .ok (.aload_n 2, 1) := by decide +kernel
theorem d_law_641 : decode code 641 = .ok (.invokevirtual 79, 3) := by decide +kernel
theorem d_law_644 : decode code 644 = .ok (.if_icmp .eq 320, 3) := by decide +kernel
theorem d_law_647 : decode code 647 = .ok (.iconst 0, 1) := by decide +kernel
theorem d_law_648 : decode code 648 = .ok (.ireturn, 1) := by decide +kernel
theorem d_law_649 : decode code 649 = .ok (.aload_n 1, 1) := by decide +kernel
theorem d_law_650 : decode code 650 = .ok (.invokevirtual 80, 3) := by decide +kernel
theorem d_law_653 : decode code 653 = .ok (.aload_n 2, 1) := by decide +kernel
theorem d_law_654 : decode code 654 = .ok (.invokevirtual 83, 3) := by decide +kernel
theorem d_law_657 : decode code 657 = .ok (.if_icmp .eq 307, 3) := by decide +kernel
theorem d_law_660 : decode code 660 = .ok (.iconst 0, 1) := by decide +kernel
theorem d_law_661 : decode code 661 = .ok (.ireturn, 1) := by decide +kernel
theorem d_law_662 : decode code 662 = .ok (.aload_n 1, 1) := by decide +kernel
theorem d_law_663 : decode code 663 = .ok (.aload_n 0, 1) := by decide +kernel
theorem d_law_664 : decode code 664 = .ok (.iload 4, 2) := by decide +kernel
theorem d_law_666 : decode code 666 = .ok (.iconst 1, 1) := by decide +kernel
theorem d_law_667 : decode code 667 = .ok (.iadd, 1) := by decide +kernel
theorem d_law_668 : decode code 668 = .ok (.iaload, 1) := by decide +kernel
theorem d_law_669 : decode code 669 = .ok (.aload_n 0, 1) := by decide +kernel
theorem d_law_670 : decode code 670 = .ok (.iload 4, 2) := by decide +kernel
theorem d_law_672 : decode code 672 = .ok (.iconst 2, 1) := by decide +kernel
theorem d_law_673 : decode code 673 = .ok (.iadd, 1) := by decide +kernel
theorem d_law_674 : decode code 674 = .ok (.iaload, 1) := by decide +kernel
theorem d_law_675 : decode code 675 = .ok (.aload_n 0, 1) := by decide +kernel
theorem d_law_676 : decode code 676 = .ok (.iload 4, 2) := by decide +kernel
theorem d_law_678 : decode code 678 = .ok (.iconst 3, 1) := by decide +kernel
theorem d_law_679 : decode code 679 = .ok (.iadd, 1) := by decide +kernel
theorem d_law_680 : decode code 680 = .ok (.iaload, 1) := by decide +kernel
theorem d_law_681 : decode code 681 = .ok (.aload_n 0, 1) := by decide +kernel
theorem d_law_682 : decode code 682 = .ok (.iload 4, 2) := by decide +kernel
theorem d_law_684 : decode code 684 = .ok (.iconst 4, 1) := by decide +kernel
theorem d_law_685 : decode code 685 = .ok (.iadd, 1) := by decide +kernel
theorem d_law_686 : decode code 686 = .ok (.iaload, 1) := by decide +kernel
theorem d_law_687 : decode code 687 = .ok (.aload_n 3, 1) := by decide +kernel
theorem d_law_688 : decode code 688 = .ok (.invokestatic 84, 3) := by decide +kernel
theorem d_law_691 : decode code 691 = .ok (.istore 5, 2) := by decide +kernel
theorem d_law_693 : decode code 693 = .ok (.aload_n 2, 1) := by decide +kernel
theorem d_law_694 : decode code 694 = .ok (.aload_n 0, 1) := by decide +kernel
theorem d_law_695 : decode code 695 = .ok (.iload 4, 2) := by decide +kernel
theorem d_law_697 : decode code 697 = .ok (.iconst 1, 1) := by decide +kernel
theorem d_law_698 : decode code 698 = .ok (.iadd, 1) := by decide +kernel
theorem d_law_699 : decode code 699 = .ok (.iaload, 1) := by decide +kernel
theorem d_law_700 : decode code 700 = .ok (.aload_n 0, 1) := by decide +kernel
theorem d_law_701 : decode code 701 = .ok (.iload 4, 2) := by decide +kernel
theorem d_law_703 : decode code 703 = .ok (.iconst 2, 1) := by decide +kernel
theorem d_law_704 : decode code 704 = .ok (.iadd, 1) := by decide +kernel
theorem d_law_705 : decode code 705 = .ok (.iaload, 1) := by decide +kernel
theorem d_law_706 : decode code 706 = .ok (.aload_n 0, 1) := by decide +kernel
theorem d_law_707 : decode code 707 = .ok (.iload 4, 2) := by decide +kernel
theorem d_law_709 : decode code 709 = .ok (.iconst 3, 1) := by decide +kernel
theorem d_law_710 : decode code 710 = .ok (.iadd, 1) := by decide +kernel
theorem d_law_711 : decode code 711 = .ok (.iaload, 1) := by decide +kernel
theorem d_law_712 : decode code 712 = .ok (.aload_n 0, 1) := by decide +kernel
theorem d_law_713 : decode code 713 = .ok (.iload 4, 2) := by decide +kernel
theorem d_law_715 : decode code 715 = .ok (.iconst 4, 1) := by decide +kernel
theorem d_law_716 : decode code 716 = .ok (.iadd, 1) := by decide +kernel
theorem d_law_717 : decode code 717 = .ok (.iaload, 1) := by decide +kernel
theorem d_law_718 : decode code 718 = .ok (.invokevirtual 86, 3) := by decide +kernel
theorem d_law_721 : decode code 721 = .ok (.istore 6, 2) := by decide +kernel
theorem d_law_723 : decode code 723 = .ok (.aload_n 2, 1) := by decide +kernel
theorem d_law_724 : decode code 724 = .ok (.invokevirtual 55, 3) := by decide +kernel
theorem d_law_727 : decode code 727 = .ok (.iload 5, 2) := by decide +kernel
theorem d_law_729 : decode code 729 = .ok (.if_icmp .eq 5, 3) := by decide +kernel
theorem d_law_732 : decode code 732 = .ok (.iconst 0, 1) := by decide +kernel
theorem d_law_733 : decode code 733 = .ok (.ireturn, 1) := by decide +kernel
theorem d_law_734 : decode code 734 = .ok (.iload 5, 2) := by decide +kernel
theorem d_law_736 : decode code 736 = .ok (.ifCond .ne 15, 3) := by decide +kernel
theorem d_law_739 : decode code 739 = .ok (.aload_n 3, 1) := by decide +kernel
theorem d_law_740 : decode code 740 = .ok (.iconst 0, 1) := by decide +kernel
theorem d_law_741 : decode code 741 = .ok (.laload, 1) := by decide +kernel
theorem d_law_742 : decode code 742 = .ok (.iload 6, 2) := by decide +kernel
theorem d_law_744 : decode code 744 = .ok (.i2l, 1) := by decide +kernel
theorem d_law_745 : decode code 745 = .ok (.lcmp, 1) := by decide +kernel
theorem d_law_746 : decode code 746 = .ok (.ifCond .eq 5, 3) := by decide +kernel
theorem d_law_749 : decode code 749 = .ok (.iconst 0, 1) := by decide +kernel
theorem d_law_750 : decode code 750 = .ok (.ireturn, 1) := by decide +kernel
theorem d_law_751 : decode code 751 = .ok (.goto 213, 3) := by decide +kernel
theorem d_law_754 : decode code 754 = .ok (.aload_n 1, 1) := by decide +kernel
theorem d_law_755 : decode code 755 = .ok (.aload_n 0, 1) := by decide +kernel
theorem d_law_756 : decode code 756 = .ok (.iload 4, 2) := by decide +kernel
theorem d_law_758 : decode code 758 = .ok (.iconst 1, 1) := by decide +kernel
theorem d_law_759 : decode code 759 = .ok (.iadd, 1) := by decide +kernel
theorem d_law_760 : decode code 760 = .ok (.iaload, 1) := by decide +kernel
theorem d_law_761 : decode code 761 = .ok (.aload_n 0, 1) := by decide +kernel
theorem d_law_762 : decode code 762 = .ok (.iload 4, 2) := by decide +kernel
theorem d_law_764 : decode code 764 = .ok (.iconst 2, 1) := by decide +kernel
theorem d_law_765 : decode code 765 = .ok (.iadd, 1) := by decide +kernel
theorem d_law_766 : decode code 766 = .ok (.iaload, 1) := by decide +kernel
theorem d_law_767 : decode code 767 = .ok (.invokevirtual 87, 3) := by decide +kernel
theorem d_law_770 : decode code 770 = .ok (.aload_n 2, 1) := by decide +kernel
theorem d_law_771 : decode code 771 = .ok (.aload_n 0, 1) := by decide +kernel
theorem d_law_772 : decode code 772 = .ok (.iload 4, 2) := by decide +kernel
theorem d_law_774 : decode code 774 = .ok (.iconst 1, 1) := by decide +kernel
theorem d_law_775 : decode code 775 = .ok (.iadd, 1) := by decide +kernel
theorem d_law_776 : decode code 776 = .ok (.iaload, 1) := by decide +kernel
theorem d_law_777 : decode code 777 = .ok (.aload_n 0, 1) := by decide +kernel
theorem d_law_778 : decode code 778 = .ok (.iload 4, 2) := by decide +kernel
theorem d_law_780 : decode code 780 = .ok (.iconst 2, 1) := by decide +kernel
theorem d_law_781 : decode code 781 = .ok (.iadd, 1) := by decide +kernel
theorem d_law_782 : decode code 782 = .ok (.iaload, 1) := by decide +kernel
theorem d_law_783 : decode code 783 = .ok (.invokevirtual 91, 3) := by decide +kernel
theorem d_law_786 : decode code 786 = .ok (.if_icmp .eq 178, 3) := by decide +kernel
theorem d_law_789 : decode code 789 = .ok (.iconst 0, 1) := by decide +kernel
theorem d_law_790 : decode code 790 = .ok (.ireturn, 1) := by decide +kernel
theorem d_law_791 : decode code 791 = .ok (.aload_n 1, 1) := by decide +kernel
theorem d_law_792 : decode code 792 = .ok (.aload_n 0, 1) := by decide +kernel
theorem d_law_793 : decode code 793 = .ok (.iload 4, 2) := by decide +kernel
theorem d_law_795 : decode code 795 = .ok (.iconst 1, 1) := by decide +kernel
theorem d_law_796 : decode code 796 = .ok (.iadd, 1) := by decide +kernel
theorem d_law_797 : decode code 797 = .ok (.iaload, 1) := by decide +kernel
theorem d_law_798 : decode code 798 = .ok (.aload_n 0, 1) := by decide +kernel
theorem d_law_799 : decode code 799 = .ok (.iload 4, 2) := by decide +kernel
theorem d_law_801 : decode code 801 = .ok (.iconst 2, 1) := by decide +kernel
theorem d_law_802 : decode code 802 = .ok (.iadd, 1) := by decide +kernel
theorem d_law_803 : decode code 803 = .ok (.iaload, 1) := by decide +kernel
theorem d_law_804 : decode code 804 = .ok (.aload_n 0, 1) := by decide +kernel
theorem d_law_805 : decode code 805 = .ok (.iload 4, 2) := by decide +kernel
theorem d_law_807 : decode code 807 = .ok (.iconst 3, 1) := by decide +kernel
theorem d_law_808 : decode code 808 = .ok (.iadd, 1) := by decide +kernel
theorem d_law_809 : decode code 809 = .ok (.iaload, 1) := by decide +kernel
theorem d_law_810 : decode code 810 = .ok (.aload_n 0, 1) := by decide +kernel
theorem d_law_811 : decode code 811 = .ok (.iload 4, 2) := by decide +kernel
theorem d_law_813 : decode code 813 = .ok (.iconst 4, 1) := by decide +kernel
theorem d_law_814 : decode code 814 = .ok (.iadd, 1) := by decide +kernel
theorem d_law_815 : decode code 815 = .ok (.iaload, 1) := by decide +kernel
theorem d_law_816 : decode code 816 = .ok (.aload_n 3, 1) := by decide +kernel
theorem d_law_817 : decode code 817 = .ok (.invokestatic 92, 3) := by decide +kernel
theorem d_law_820 : decode code 820 = .ok (.istore 5, 2) := by decide +kernel
theorem d_law_822 : decode code 822 = .ok (.aload_n 2, 1) := by decide +kernel
theorem d_law_823 : decode code 823 = .ok (.aload_n 0, 1) := by decide +kernel
theorem d_law_824 : decode code 824 = .ok (.iload 4, 2) := by decide +kernel
theorem d_law_826 : decode code 826 = .ok (.iconst 1, 1) := by decide +kernel
theorem d_law_827 : decode code 827 = .ok (.iadd, 1) := by decide +kernel
theorem d_law_828 : decode code 828 = .ok (.iaload, 1) := by decide +kernel
theorem d_law_829 : decode code 829 = .ok (.aload_n 0, 1) := by decide +kernel
theorem d_law_830 : decode code 830 = .ok (.iload 4, 2) := by decide +kernel
theorem d_law_832 : decode code 832 = .ok (.iconst 2, 1) := by decide +kernel
theorem d_law_833 : decode code 833 = .ok (.iadd, 1) := by decide +kernel
theorem d_law_834 : decode code 834 = .ok (.iaload, 1) := by decide +kernel
theorem d_law_835 : decode code 835 = .ok (.aload_n 0, 1) := by decide +kernel
theorem d_law_836 : decode code 836 = .ok (.iload 4, 2) := by decide +kernel
theorem d_law_838 : decode code 838 = .ok (.iconst 3, 1) := by decide +kernel
theorem d_law_839 : decode code 839 = .ok (.iadd, 1) := by decide +kernel
theorem d_law_840 : decode code 840 = .ok (.iaload, 1) := by decide +kernel
theorem d_law_841 : decode code 841 = .ok (.aload_n 0, 1) := by decide +kernel
theorem d_law_842 : decode code 842 = .ok (.iload 4, 2) := by decide +kernel
theorem d_law_844 : decode code 844 = .ok (.iconst 4, 1) := by decide +kernel
theorem d_law_845 : decode code 845 = .ok (.iadd, 1) := by decide +kernel
theorem d_law_846 : decode code 846 = .ok (.iaload, 1) := by decide +kernel
theorem d_law_847 : decode code 847 = .ok (.invokevirtual 94, 3) := by decide +kernel
theorem d_law_850 : decode code 850 = .ok (.istore 6, 2) := by decide +kernel
theorem d_law_852 : decode code 852 = .ok (.aload_n 2, 1) := by decide +kernel
theorem d_law_853 : decode code 853 = .ok (.invokevirtual 55, 3) := by decide +kernel
theorem d_law_856 : decode code 856 = .ok (.iload 5, 2) := by decide +kernel
theorem d_law_858 : decode code 858 = .ok (.if_icmp .eq 5, 3) := by decide +kernel
theorem d_law_861 : decode code 861 = .ok (.iconst 0, 1) := by decide +kernel
theorem d_law_862 : decode code 862 = .ok (.ireturn, 1) := by decide +kernel
theorem d_law_863 : decode code 863 = .ok (.iload 5, 2) := by decide +kernel
theorem d_law_865 : decode code 865 = .ok (.ifCond .ne 15, 3) := by decide +kernel
theorem d_law_868 : decode code 868 = .ok (.aload_n 3, 1) := by decide +kernel
theorem d_law_869 : decode code 869 = .ok (.iconst 0, 1) := by decide +kernel
theorem d_law_870 : decode code 870 = .ok (.laload, 1) := by decide +kernel
theorem d_law_871 : decode code 871 = .ok (.iload 6, 2) := by decide +kernel
theorem d_law_873 : decode code 873 = .ok (.i2l, 1) := by decide +kernel
theorem d_law_874 : decode code 874 = .ok (.lcmp, 1) := by decide +kernel
theorem d_law_875 : decode code 875 = .ok (.ifCond .eq 5, 3) := by decide +kernel
theorem d_law_878 : decode code 878 = .ok (.iconst 0, 1) := by decide +kernel
theorem d_law_879 : decode code 879 = .ok (.ireturn, 1) := by decide +kernel
theorem d_law_880 : decode code 880 = .ok (.goto 84, 3) := by decide +kernel
theorem d_law_883 : decode code 883 = .ok (.aload_n 1, 1) := by decide +kernel
theorem d_law_884 : decode code 884 = .ok (.aload_n 0, 1) := by decide +kernel
theorem d_law_885 : decode code 885 = .ok (.iload 4, 2) := by decide +kernel
theorem d_law_887 : decode code 887 = .ok (.iconst 1, 1) := by decide +kernel
theorem d_law_888 : decode code 888 = .ok (.iadd, 1) := by decide +kernel
theorem d_law_889 : decode code 889 = .ok (.iaload, 1) := by decide +kernel
theorem d_law_890 : decode code 890 = .ok (.aload_n 3, 1) := by decide +kernel
theorem d_law_891 : decode code 891 = .ok (.invokestatic 95, 3) := by decide +kernel
theorem d_law_894 : decode code 894 = .ok (.istore 5, 2) := by decide +kernel
theorem d_law_896 : decode code 896 = .ok (.aload_n 2, 1) := by decide +kernel
theorem d_law_897 : decode code 897 = .ok (.aload_n 0, 1) := by decide +kernel
theorem d_law_898 : decode code 898 = .ok (.iload 4, 2) := by decide +kernel
theorem d_law_900 : decode code 900 = .ok (.iconst 1, 1) := by decide +kernel
theorem d_law_901 : decode code 901 = .ok (.iadd, 1) := by decide +kernel
theorem d_law_902 : decode code 902 = .ok (.iaload, 1) := by decide +kernel
theorem d_law_903 : decode code 903 = .ok (.invokevirtual 97, 3) := by decide +kernel
theorem d_law_906 : decode code 906 = .ok (.istore 6, 2) := by decide +kernel
theorem d_law_908 : decode code 908 = .ok (.aload_n 2, 1) := by decide +kernel
theorem d_law_909 : decode code 909 = .ok (.invokevirtual 55, 3) := by decide +kernel
theorem d_law_912 : decode code 912 = .ok (.iload 5, 2) := by decide +kernel
theorem d_law_914 : decode code 914 = .ok (.if_icmp .eq 5, 3) := by decide +kernel
theorem d_law_917 : decode code 917 = .ok (.iconst 0, 1) := by decide +kernel
theorem d_law_918 : decode code 918 = .ok (.ireturn, 1) := by decide +kernel
theorem d_law_919 : decode code 919 = .ok (.iload 5, 2) := by decide +kernel
theorem d_law_921 : decode code 921 = .ok (.ifCond .ne 15, 3) := by decide +kernel
theorem d_law_924 : decode code 924 = .ok (.aload_n 3, 1) := by decide +kernel
theorem d_law_925 : decode code 925 = .ok (.iconst 0, 1) := by decide +kernel
theorem d_law_926 : decode code 926 = .ok (.laload, 1) := by decide +kernel
theorem d_law_927 : decode code 927 = .ok (.iload 6, 2) := by decide +kernel
theorem d_law_929 : decode code 929 = .ok (.i2l, 1) := by decide +kernel
theorem d_law_930 : decode code 930 = .ok (.lcmp, 1) := by decide +kernel
theorem d_law_931 : decode code 931 = .ok (.ifCond .eq 5, 3) := by decide +kernel
theorem d_law_934 : decode code 934 = .ok (.iconst 0, 1) := by decide +kernel
theorem d_law_935 : decode code 935 = .ok (.ireturn, 1) := by decide +kernel
theorem d_law_936 : decode code 936 = .ok (.goto 28, 3) := by decide +kernel
theorem d_law_939 : decode code 939 = .ok (.aload_n 1, 1) := by decide +kernel
theorem d_law_940 : decode code 940 = .ok (.aload_n 0, 1) := by decide +kernel
theorem d_law_941 : decode code 941 = .ok (.iload 4, 2) := by decide +kernel
theorem d_law_943 : decode code 943 = .ok (.iconst 1, 1) := by decide +kernel
theorem d_law_944 : decode code 944 = .ok (.iadd, 1) := by decide +kernel
theorem d_law_945 : decode code 945 = .ok (.iaload, 1) := by decide +kernel
theorem d_law_946 : decode code 946 = .ok (.invokevirtual 98, 3) := by decide +kernel
theorem d_law_949 : decode code 949 = .ok (.aload_n 2, 1) := by decide +kernel
theorem d_law_950 : decode code 950 = .ok (.aload_n 0, 1) := by decide +kernel
theorem d_law_951 : decode code 951 = .ok (.iload 4, 2) := by decide +kernel
theorem d_law_953 : decode code 953 = .ok (.iconst 1, 1) := by decide +kernel
theorem d_law_954 : decode code 954 = .ok (.iadd, 1) := by decide +kernel
theorem d_law_955 : decode code 955 = .ok (.iaload, 1) := by decide +kernel
theorem d_law_956 : decode code 956 = .ok (.invokevirtual 101, 3) := by decide +kernel
theorem d_law_959 : decode code 959 = .ok (.if_icmp .eq 5, 3) := by decide +kernel
theorem d_law_962 : decode code 962 = .ok (.iconst 0, 1) := by decide +kernel
theorem d_law_963 : decode code 963 = .ok (.ireturn, 1) := by decide +kernel
theorem d_law_964 : decode code 964 = .ok (.iinc 4 6, 3) := by decide +kernel
theorem d_law_967 : decode code 967 = .ok (.goto (-944), 3) := by decide +kernel
theorem d_law_970 : decode code 970 = .ok (.iconst 1, 1) := by decide +kernel
theorem d_law_971 : decode code 971 = .ok (.ireturn, 1) := by decide +kernel
