-- words of the tables, and what stands at each place of the methods' code (laid by program)
/-! what stands at each place of the law's entry (2 of 4) -/
theorem dw_583 : decode code 583 = .ok (.aload_n 0, 1) := by decide +kernel
theorem dw_584 : decode code 584 = .ok (.iload 5, 2) := by decide +kernel
theorem dw_586 : decode code 586 = .ok (.iconst 2, 1) := by decide +kernel
theorem dw_587 : decode code 587 = .ok (.iadd, 1) := by decide +kernel
theorem dw_588 : decode code 588 = .ok (.iaload, 1) := by decide +kernel
theorem dw_589 : decode code 589 = .ok (.ifCond .eq 7, 3) := by decide +kernel
theorem dw_592 : decode code 592 = .ok (.iconst 1, 1) := by decide +kernel
theorem dw_593 : decode code 593 = .ok (.goto 4, 3) := by decide +kernel
theorem dw_596 : decode code 596 = .ok (.iconst 0, 1) := by decide +kernel
theorem dw_597 : decode code 597 = .ok (.aload_n 3, 1) := by decide +kernel
theorem dw_598 : decode code 598 = .ok (.invokestatic 128, 3) := by decide +kernel
theorem dw_601 : decode code 601 = .ok (.istore 6, 2) := by decide +kernel
theorem dw_603 : decode code 603 = .ok (.aload_n 2, 1) := by decide +kernel
theorem dw_604 : decode code 604 = .ok (.aload_n 0, 1) := by decide +kernel
theorem dw_605 : decode code 605 = .ok (.iload 5, 2) := by decide +kernel
theorem dw_607 : decode code 607 = .ok (.iconst 1, 1) := by decide +kernel
theorem dw_608 : decode code 608 = .ok (.iadd, 1) := by decide +kernel
theorem dw_609 : decode code 609 = .ok (.iaload, 1) := by decide +kernel
theorem dw_610 : decode code 610 = .ok (.aload_n 0, 1) := by decide +kernel
theorem dw_611 : decode code 611 = .ok (.iload 5, 2) := by decide +kernel
theorem dw_613 : decode code 613 = .ok (.iconst 2, 1) := by decide +kernel
theorem dw_614 : decode code 614 = .ok (.iadd, 1) := by decide +kernel
theorem dw_615 : decode code 615 = .ok (.iaload, 1) := by decide +kernel
theorem dw_616 : decode code 616 = .ok (.ifCond .eq 7, 3) := by decide +kernel
theorem dw_619 : decode code 619 = .ok (.iconst 1, 1) := by decide +kernel
theorem dw_620 : decode code 620 = .ok (.goto 4, 3) := by decide +kernel
theorem dw_623 : decode code 623 = .ok (.iconst 0, 1) := by decide +kernel
theorem dw_624 : decode code 624 = .ok (.invokevirtual 131, 3) := by decide +kernel
theorem dw_627 : decode code 627 = .ok (.istore 7, 2) := by decide +kernel
theorem dw_629 : decode code 629 = .ok (.aload_n 2, 1) := by decide +kernel
theorem dw_630 : decode code 630 = .ok (.invokevirtual 111, 3) := by decide +kernel
theorem dw_633 : decode code 633 = .ok (.iload 6, 2) := by decide +kernel
theorem dw_635 : decode code 635 = .ok (.if_icmp .eq 5, 3) := by decide +kernel
theorem dw_640 : decode code 640 = .ok (.iload 6, 2) := by decide +kernel
theorem dw_642 : decode code 642 = .ok (.ifCond .ne 15, 3) := by decide +kernel
theorem dw_645 : decode code 645 = .ok (.aload_n 3, 1) := by decide +kernel
theorem dw_646 : decode code 646 = .ok (.iconst 0, 1) := by decide +kernel
theorem dw_647 : decode code 647 = .ok (.laload, 1) := by decide +kernel
theorem dw_648 : decode code 648 = .ok (.iload 7, 2) := by decide +kernel
theorem dw_650 : decode code 650 = .ok (.i2l, 1) := by decide +kernel
theorem dw_651 : decode code 651 = .ok (.lcmp, 1) := by decide +kernel
theorem dw_652 : decode code 652 = .ok (.ifCond .eq 5, 3) := by decide +kernel
theorem dw_657 : decode code 657 = .ok (.goto 1373, 3) := by decide +kernel
theorem dw_660 : decode code 660 = .ok (.aload_n 1, 1) := by decide +kernel
theorem dw_661 : decode code 661 = .ok (.aload_n 0, 1) := by decide +kernel
theorem dw_662 : decode code 662 = .ok (.iload 5, 2) := by decide +kernel
theorem dw_664 : decode code 664 = .ok (.iconst 1, 1) := by decide +kernel
theorem dw_665 : decode code 665 = .ok (.iadd, 1) := by decide +kernel
theorem dw_666 : decode code 666 = .ok (.iaload, 1) := by decide +kernel
theorem dw_667 : decode code 667 = .ok (.aload_n 3, 1) := by decide +kernel
theorem dw_668 : decode code 668 = .ok (.invokestatic 132, 3) := by decide +kernel
theorem dw_671 : decode code 671 = .ok (.istore 6, 2) := by decide +kernel
theorem dw_673 : decode code 673 = .ok (.aload_n 2, 1) := by decide +kernel
theorem dw_674 : decode code 674 = .ok (.aload_n 0, 1) := by decide +kernel
theorem dw_675 : decode code 675 = .ok (.iload 5, 2) := by decide +kernel
theorem dw_677 : decode code 677 = .ok (.iconst 1, 1) := by decide +kernel
theorem dw_678 : decode code 678 = .ok (.iadd, 1) := by decide +kernel
theorem dw_679 : decode code 679 = .ok (.iaload, 1) := by decide +kernel
theorem dw_680 : decode code 680 = .ok (.invokevirtual 135, 3) := by decide +kernel
theorem dw_683 : decode code 683 = .ok (.istore 7, 2) := by decide +kernel
theorem dw_685 : decode code 685 = .ok (.aload_n 2, 1) := by decide +kernel
theorem dw_686 : decode code 686 = .ok (.invokevirtual 111, 3) := by decide +kernel
theorem dw_689 : decode code 689 = .ok (.iload 6, 2) := by decide +kernel
theorem dw_691 : decode code 691 = .ok (.if_icmp .eq 5, 3) := by decide +kernel
theorem dw_696 : decode code 696 = .ok (.iload 6, 2) := by decide +kernel
theorem dw_698 : decode code 698 = .ok (.ifCond .ne 15, 3) := by decide +kernel
theorem dw_701 : decode code 701 = .ok (.aload_n 3, 1) := by decide +kernel
theorem dw_702 : decode code 702 = .ok (.iconst 0, 1) := by decide +kernel
theorem dw_703 : decode code 703 = .ok (.laload, 1) := by decide +kernel
theorem dw_704 : decode code 704 = .ok (.iload 7, 2) := by decide +kernel
theorem dw_706 : decode code 706 = .ok (.i2l, 1) := by decide +kernel
theorem dw_707 : decode code 707 = .ok (.lcmp, 1) := by decide +kernel
theorem dw_708 : decode code 708 = .ok (.ifCond .eq 5, 3) := by decide +kernel
theorem dw_713 : decode code 713 = .ok (.goto 1317, 3) := by decide +kernel
theorem dw_716 : decode code 716 = .ok (.aload_n 1, 1) := by decide +kernel
theorem dw_717 : decode code 717 = .ok (.aload_n 0, 1) := by decide +kernel
theorem dw_718 : decode code 718 = .ok (.iload 5, 2) := by decide +kernel
theorem dw_720 : decode code 720 = .ok (.iconst 1, 1) := by decide +kernel
theorem dw_721 : decode code 721 = .ok (.iadd, 1) := by decide +kernel
theorem dw_722 : decode code 722 = .ok (.iaload, 1) := by decide +kernel
theorem dw_723 : decode code 723 = .ok (.aload_n 0, 1) := by decide +kernel
theorem dw_724 : decode code 724 = .ok (.iload 5, 2) := by decide +kernel
theorem dw_726 : decode code 726 = .ok (.iconst 2, 1) := by decide +kernel
theorem dw_727 : decode code 727 = .ok (.iadd, 1) := by decide +kernel
theorem dw_728 : decode code 728 = .ok (.iaload, 1) := by decide +kernel
theorem dw_729 : decode code 729 = .ok (.aload_n 3, 1) := by decide +kernel
theorem dw_730 : decode code 730 = .ok (.invokestatic 136, 3) := by decide +kernel
theorem dw_733 : decode code 733 = .ok (.istore 6, 2) := by decide +kernel
theorem dw_735 : decode code 735 = .ok (.aload_n 2, 1) := by decide +kernel
theorem dw_736 : decode code 736 = .ok (.aload_n 0, 1) := by decide +kernel
theorem dw_737 : decode code 737 = .ok (.iload 5, 2) := by decide +kernel
theorem dw_739 : decode code 739 = .ok (.iconst 1, 1) := by decide +kernel
theorem dw_740 : decode code 740 = .ok (.iadd, 1) := by decide +kernel
theorem dw_741 : decode code 741 = .ok (.iaload, 1) := by decide +kernel
theorem dw_742 : decode code 742 = .ok (.aload_n 0, 1) := by decide +kernel
theorem dw_743 : decode code 743 = .ok (.iload 5, 2) := by decide +kernel
theorem dw_745 : decode code 745 = .ok (.iconst 2, 1) := by decide +kernel
theorem dw_746 : decode code 746 = .ok (.iadd, 1) := by decide +kernel
theorem dw_747 : decode code 747 = .ok (.iaload, 1) := by decide +kernel
theorem dw_748 : decode code 748 = .ok (.invokevirtual 138, 3) := by decide +kernel
theorem dw_751 : decode code 751 = .ok (.istore 7, 2) := by decide +kernel
theorem dw_753 : decode code 753 = .ok (.aload_n 2, 1) := by decide +kernel
theorem dw_754 : decode code 754 = .ok (.invokevirtual 111, 3) := by decide +kernel
theorem dw_757 : decode code 757 = .ok (.iload 6, 2) := by decide +kernel
theorem dw_759 : decode code 759 = .ok (.if_icmp .eq 5, 3) := by decide +kernel
theorem dw_764 : decode code 764 = .ok (.iload 6, 2) := by decide +kernel
theorem dw_766 : decode code 766 = .ok (.ifCond .ne 15, 3) := by decide +kernel
theorem dw_769 : decode code 769 = .ok (.aload_n 3, 1) := by decide +kernel
theorem dw_770 : decode code 770 = .ok (.iconst 0, 1) := by decide +kernel
theorem dw_771 : decode code 771 = .ok (.laload, 1) := by decide +kernel
theorem dw_772 : decode code 772 = .ok (.iload 7, 2) := by decide +kernel
theorem dw_774 : decode code 774 = .ok (.i2l, 1) := by decide +kernel
theorem dw_775 : decode code 775 = .ok (.lcmp, 1) := by decide +kernel
theorem dw_776 : decode code 776 = .ok (.ifCond .eq 5, 3) := by decide +kernel
theorem dw_781 : decode code 781 = .ok (.goto 1249, 3) := by decide +kernel
theorem dw_784 : decode code 784 = .ok (.aload_n 1, 1) := by decide +kernel
theorem dw_785 : decode code 785 = .ok (.aload_n 0, 1) := by decide +kernel
theorem dw_786 : decode code 786 = .ok (.iload 5, 2) := by decide +kernel
theorem dw_788 : decode code 788 = .ok (.iconst 1, 1) := by decide +kernel
theorem dw_789 : decode code 789 = .ok (.iadd, 1) := by decide +kernel
theorem dw_790 : decode code 790 = .ok (.iaload, 1) := by decide +kernel
theorem dw_791 : decode code 791 = .ok (.aload_n 0, 1) := by decide +kernel
theorem dw_792 : decode code 792 = .ok (.iload 5, 2) := by decide +kernel
theorem dw_794 : decode code 794 = .ok (.iconst 2, 1) := by decide +kernel
theorem dw_795 : decode code 795 = .ok (.iadd, 1) := by decide +kernel
theorem dw_796 : decode code 796 = .ok (.iaload, 1) := by decide +kernel
theorem dw_797 : decode code 797 = .ok (.ifCond .eq 7, 3) := by decide +kernel
theorem dw_800 : decode code 800 = .ok (.iconst 1, 1) := by decide +kernel
theorem dw_801 : decode code 801 = .ok (.goto 4, 3) := by decide +kernel
theorem dw_804 : decode code 804 = .ok (.iconst 0, 1) := by decide +kernel
theorem dw_805 : decode code 805 = .ok (.aload_n 3, 1) := by decide +kernel
theorem dw_806 : decode code 806 = .ok (.invokestatic 139, 3) := by decide +kernel
theorem dw_809 : decode code 809 = .ok (.istore 6, 2) := by decide +kernel
theorem dw_811 : decode code 811 = .ok (.aload_n 2, 1) := by decide +kernel
theorem dw_812 : decode code 812 = .ok (.aload_n 0, 1) := by decide +kernel
theorem dw_813 : decode code 813 = .ok (.iload 5, 2) := by decide +kernel
theorem dw_815 : decode code 815 = .ok (.iconst 1, 1) := by decide +kernel
theorem dw_816 : decode code 816 = .ok (.iadd, 1) := by decide +kernel
theorem dw_817 : decode code 817 = .ok (.iaload, 1) := by decide +kernel
theorem dw_818 : decode code 818 = .ok (.aload_n 0, 1) := by decide +kernel
theorem dw_819 : decode code 819 = .ok (.iload 5, 2) := by decide +kernel
theorem dw_821 : decode code 821 = .ok (.iconst 2, 1) := by decide +kernel
theorem dw_822 : decode code 822 = .ok (.iadd, 1) := by decide +kernel
theorem dw_823 : decode code 823 = .ok (.iaload, 1) := by decide +kernel
theorem dw_824 : decode code 824 = .ok (.ifCond .eq 7, 3) := by decide +kernel
theorem dw_827 : decode code 827 = .ok (.iconst 1, 1) := by decide +kernel
theorem dw_828 : decode code 828 = .ok (.goto 4, 3) := by decide +kernel
theorem dw_831 : decode code 831 = .ok (.iconst 0, 1) := by decide +kernel
theorem dw_832 : decode code 832 = .ok (.invokevirtual 141, 3) := by decide +kernel
theorem dw_835 : decode code 835 = .ok (.istore 7, 2) := by decide +kernel
theorem dw_837 : decode code 837 = .ok (.aload_n 2, 1) := by decide +kernel
theorem dw_838 : decode code 838 = .ok (.invokevirtual 111, 3) := by decide +kernel
theorem dw_841 : decode code 841 = .ok (.iload 6, 2) := by decide +kernel
theorem dw_843 : decode code 843 = .ok (.if_icmp .eq 5, 3) := by decide +kernel
theorem dw_848 : decode code 848 = .ok (.iload 6, 2) := by decide +kernel
theorem dw_850 : decode code 850 = .ok (.ifCond .ne 22, 3) := by decide +kernel
theorem dw_853 : decode code 853 = .ok (.aload_n 3, 1) := by decide +kernel
theorem dw_854 : decode code 854 = .ok (.iconst 0, 1) := by decide +kernel
theorem dw_855 : decode code 855 = .ok (.laload, 1) := by decide +kernel
theorem dw_856 : decode code 856 = .ok (.iload 7, 2) := by decide +kernel
theorem dw_858 : decode code 858 = .ok (.ifCond .eq 7, 3) := by decide +kernel
theorem dw_861 : decode code 861 = .ok (.lconst 1, 1) := by decide +kernel
theorem dw_862 : decode code 862 = .ok (.goto 4, 3) := by decide +kernel
theorem dw_865 : decode code 865 = .ok (.lconst 0, 1) := by decide +kernel
theorem dw_866 : decode code 866 = .ok (.lcmp, 1) := by decide +kernel
theorem dw_867 : decode code 867 = .ok (.ifCond .eq 5, 3) := by decide +kernel
theorem dw_872 : decode code 872 = .ok (.goto 1158, 3) := by decide +kernel
theorem dw_875 : decode code 875 = .ok (.aload_n 1, 1) := by decide +kernel
theorem dw_876 : decode code 876 = .ok (.aload_n 0, 1) := by decide +kernel
theorem dw_877 : decode code 877 = .ok (.iload 5, 2) := by decide +kernel
theorem dw_879 : decode code 879 = .ok (.iconst 1, 1) := by decide +kernel
theorem dw_880 : decode code 880 = .ok (.iadd, 1) := by decide +kernel
theorem dw_881 : decode code 881 = .ok (.iaload, 1) := by decide +kernel
theorem dw_882 : decode code 882 = .ok (.aload_n 0, 1) := by decide +kernel
theorem dw_883 : decode code 883 = .ok (.iload 5, 2) := by decide +kernel
theorem dw_885 : decode code 885 = .ok (.iconst 2, 1) := by decide +kernel
theorem dw_886 : decode code 886 = .ok (.iadd, 1) := by decide +kernel
theorem dw_887 : decode code 887 = .ok (.iaload, 1) := by decide +kernel
theorem dw_888 : decode code 888 = .ok (.aload_n 0, 1) := by decide +kernel
theorem dw_889 : decode code 889 = .ok (.iload 5, 2) := by decide +kernel
theorem dw_891 : decode code 891 = .ok (.iconst 3, 1) := by decide +kernel
theorem dw_892 : decode code 892 = .ok (.iadd, 1) := by decide +kernel
theorem dw_893 : decode code 893 = .ok (.iaload, 1) := by decide +kernel
theorem dw_894 : decode code 894 = .ok (.aload_n 3, 1) := by decide +kernel
theorem dw_895 : decode code 895 = .ok (.invokestatic 142, 3) := by decide +kernel
theorem dw_898 : decode code 898 = .ok (.istore 6, 2) := by decide +kernel
theorem dw_900 : decode code 900 = .ok (.aload_n 2, 1) := by decide +kernel
theorem dw_901 : decode code 901 = .ok (.aload_n 0, 1) := by decide +kernel
theorem dw_902 : decode code 902 = .ok (.iload 5, 2) := by decide +kernel
theorem dw_904 : decode code 904 = .ok (.iconst 1, 1) := by decide +kernel
theorem dw_905 : decode code 905 = .ok (.iadd, 1) := by decide +kernel
theorem dw_906 : decode code 906 = .ok (.iaload, 1) := by decide +kernel
theorem dw_907 : decode code 907 = .ok (.aload_n 0, 1) := by decide +kernel
theorem dw_908 : decode code 908 = .ok (.iload 5, 2) := by decide +kernel
theorem dw_910 : decode code 910 = .ok (.iconst 2, 1) := by decide +kernel
theorem dw_911 : decode code 911 = .ok (.iadd, 1) := by decide +kernel
theorem dw_912 : decode code 912 = .ok (.iaload, 1) := by decide +kernel
theorem dw_913 : decode code 913 = .ok (.aload_n 0, 1) := by decide +kernel
theorem dw_914 : decode code 914 = .ok (.iload 5, 2) := by decide +kernel
theorem dw_916 : decode code 916 = .ok (.iconst 3, 1) := by decide +kernel
theorem dw_917 : decode code 917 = .ok (.iadd, 1) := by decide +kernel
theorem dw_918 : decode code 918 = .ok (.iaload, 1) := by decide +kernel
theorem dw_919 : decode code 919 = .ok (.invokevirtual 145, 3) := by decide +kernel
theorem dw_922 : decode code 922 = .ok (.istore 7, 2) := by decide +kernel
theorem dw_924 : decode code 924 = .ok (.aload_n 2, 1) := by decide +kernel
theorem dw_925 : decode code 925 = .ok (.invokevirtual 111, 3) := by decide +kernel
theorem dw_928 : decode code 928 = .ok (.iload 6, 2) := by decide +kernel
theorem dw_930 : decode code 930 = .ok (.if_icmp .eq 5, 3) := by decide +kernel
theorem dw_935 : decode code 935 = .ok (.iload 6, 2) := by decide +kernel
theorem dw_937 : decode code 937 = .ok (.ifCond .ne 15, 3) := by decide +kernel
theorem dw_940 : decode code 940 = .ok (.aload_n 3, 1) := by decide +kernel
theorem dw_941 : decode code 941 = .ok (.iconst 0, 1) := by decide +kernel
theorem dw_942 : decode code 942 = .ok (.laload, 1) := by decide +kernel
theorem dw_943 : decode code 943 = .ok (.iload 7, 2) := by decide +kernel
theorem dw_945 : decode code 945 = .ok (.i2l, 1) := by decide +kernel
theorem dw_946 : decode code 946 = .ok (.lcmp, 1) := by decide +kernel
theorem dw_947 : decode code 947 = .ok (.ifCond .eq 5, 3) := by decide +kernel
theorem dw_952 : decode code 952 = .ok (.goto 1078, 3) := by decide +kernel
theorem dw_955 : decode code 955 = .ok (.aload_n 1, 1) := by decide +kernel
theorem dw_956 : decode code 956 = .ok (.aload_n 0, 1) := by decide +kernel
theorem dw_957 : decode code 957 = .ok (.iload 5, 2) := by decide +kernel
theorem dw_959 : decode code 959 = .ok (.iconst 1, 1) := by decide +kernel
theorem dw_960 : decode code 960 = .ok (.iadd, 1) := by decide +kernel
theorem dw_961 : decode code 961 = .ok (.iaload, 1) := by decide +kernel
theorem dw_962 : decode code 962 = .ok (.aload_n 0, 1) := by decide +kernel
theorem dw_963 : decode code 963 = .ok (.iload 5, 2) := by decide +kernel
theorem dw_965 : decode code 965 = .ok (.iconst 2, 1) := by decide +kernel
theorem dw_966 : decode code 966 = .ok (.iadd, 1) := by decide +kernel
theorem dw_967 : decode code 967 = .ok (.iaload, 1) := by decide +kernel
theorem dw_968 : decode code 968 = .ok (.aload_n 0, 1) := by decide +kernel
theorem dw_969 : decode code 969 = .ok (.iload 5, 2) := by decide +kernel
theorem dw_971 : decode code 971 = .ok (.iconst 3, 1) := by decide +kernel
theorem dw_972 : decode code 972 = .ok (.iadd, 1) := by decide +kernel
theorem dw_973 : decode code 973 = .ok (.iaload, 1) := by decide +kernel
theorem dw_974 : decode code 974 = .ok (.aload_n 0, 1) := by decide +kernel
theorem dw_975 : decode code 975 = .ok (.iload 5, 2) := by decide +kernel
theorem dw_977 : decode code 977 = .ok (.iconst 4, 1) := by decide +kernel
theorem dw_978 : decode code 978 = .ok (.iadd, 1) := by decide +kernel
theorem dw_979 : decode code 979 = .ok (.iaload, 1) := by decide +kernel
theorem dw_980 : decode code 980 = .ok (.aload_n 3, 1) := by decide +kernel
theorem dw_981 : decode code 981 = .ok (.invokestatic 146, 3) := by decide +kernel
theorem dw_984 : decode code 984 = .ok (.istore 6, 2) := by decide +kernel
theorem dw_986 : decode code 986 = .ok (.aload_n 2, 1) := by decide +kernel
theorem dw_987 : decode code 987 = .ok (.aload_n 0, 1) := by decide +kernel
theorem dw_988 : decode code 988 = .ok (.iload 5, 2) := by decide +kernel
theorem dw_990 : decode code 990 = .ok (.iconst 1, 1) := by decide +kernel
theorem dw_991 : decode code 991 = .ok (.iadd, 1) := by decide +kernel
theorem dw_992 : decode code 992 = .ok (.iaload, 1) := by decide +kernel
theorem dw_993 : decode code 993 = .ok (.aload_n 0, 1) := by decide +kernel
theorem dw_994 : decode code 994 = .ok (.iload 5, 2) := by decide +kernel
theorem dw_996 : decode code 996 = .ok (.iconst 2, 1) := by decide +kernel
theorem dw_997 : decode code 997 = .ok (.iadd, 1) := by decide +kernel
theorem dw_998 : decode code 998 = .ok (.iaload, 1) := by decide +kernel
theorem dw_999 : decode code 999 = .ok (.aload_n 0, 1) := by decide +kernel
theorem dw_1000 : decode code 1000 = .ok (.iload 5, 2) := by decide +kernel
theorem dw_1002 : decode code 1002 = .ok (.iconst 3, 1) := by decide +kernel
theorem dw_1003 : decode code 1003 = .ok (.iadd, 1) := by decide +kernel
theorem dw_1004 : decode code 1004 = .ok (.iaload, 1) := by decide +kernel
theorem dw_1005 : decode code 1005 = .ok (.aload_n 0, 1) := by decide +kernel
theorem dw_1006 : decode code 1006 = .ok (.iload 5, 2) := by decide +kernel
theorem dw_1008 : decode code 1008 = .ok (.iconst 4, 1) := by decide +kernel
theorem dw_1009 : decode code 1009 = .ok (.iadd, 1) := by decide +kernel
theorem dw_1010 : decode code 1010 = .ok (.iaload, 1) := by decide +kernel
theorem dw_1011 : decode code 1011 = .ok (.invokevirtual 149, 3) := by decide +kernel
theorem dw_1014 : decode code 1014 = .ok (.istore 7, 2) := by decide +kernel
theorem dw_1016 : decode code 1016 = .ok (.aload_n 2, 1) := by decide +kernel
theorem dw_1017 : decode code 1017 = .ok (.invokevirtual 111, 3) := by decide +kernel
theorem dw_1020 : decode code 1020 = .ok (.iload 6, 2) := by decide +kernel
theorem dw_1022 : decode code 1022 = .ok (.if_icmp .eq 5, 3) := by decide +kernel
theorem dw_1027 : decode code 1027 = .ok (.iload 6, 2) := by decide +kernel
theorem dw_1029 : decode code 1029 = .ok (.ifCond .ne 15, 3) := by decide +kernel
theorem dw_1032 : decode code 1032 = .ok (.aload_n 3, 1) := by decide +kernel
theorem dw_1033 : decode code 1033 = .ok (.iconst 0, 1) := by decide +kernel
theorem dw_1034 : decode code 1034 = .ok (.laload, 1) := by decide +kernel
theorem dw_1035 : decode code 1035 = .ok (.iload 7, 2) := by decide +kernel
theorem dw_1037 : decode code 1037 = .ok (.i2l, 1) := by decide +kernel
theorem dw_1038 : decode code 1038 = .ok (.lcmp, 1) := by decide +kernel
theorem dw_1039 : decode code 1039 = .ok (.ifCond .eq 5, 3) := by decide +kernel
theorem dw_1044 : decode code 1044 = .ok (.goto 986, 3) := by decide +kernel
theorem dw_1047 : decode code 1047 = .ok (.aload_n 1, 1) := by decide +kernel
theorem dw_1048 : decode code 1048 = .ok (.aload_n 0, 1) := by decide +kernel
theorem dw_1049 : decode code 1049 = .ok (.iload 5, 2) := by decide +kernel
theorem dw_1051 : decode code 1051 = .ok (.iconst 1, 1) := by decide +kernel
theorem dw_1052 : decode code 1052 = .ok (.iadd, 1) := by decide +kernel
theorem dw_1053 : decode code 1053 = .ok (.iaload, 1) := by decide +kernel
