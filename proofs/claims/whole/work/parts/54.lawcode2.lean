/-! ===== the law's code, 2 ===== -/
theorem dW_587 : decode code 587 = .ok (.iload 5, 2) := by decide +kernel
theorem dW_589 : decode code 589 = .ok (.if_icmp .eq 5, 3) := by decide +kernel
theorem dW_592 : decode code 592 = .ok (.iconst 0, 1) := by decide +kernel
theorem dW_593 : decode code 593 = .ok (.ireturn, 1) := by decide +kernel
theorem dW_594 : decode code 594 = .ok (.iload 5, 2) := by decide +kernel
theorem dW_596 : decode code 596 = .ok (.ifCond .ne 15, 3) := by decide +kernel
theorem dW_599 : decode code 599 = .ok (.aload_n 3, 1) := by decide +kernel
theorem dW_600 : decode code 600 = .ok (.iconst 0, 1) := by decide +kernel
theorem dW_601 : decode code 601 = .ok (.laload, 1) := by decide +kernel
theorem dW_602 : decode code 602 = .ok (.iload 6, 2) := by decide +kernel
theorem dW_604 : decode code 604 = .ok (.i2l, 1) := by decide +kernel
theorem dW_605 : decode code 605 = .ok (.lcmp, 1) := by decide +kernel
theorem dW_606 : decode code 606 = .ok (.ifCond .eq 5, 3) := by decide +kernel
theorem dW_609 : decode code 609 = .ok (.iconst 0, 1) := by decide +kernel
theorem dW_610 : decode code 610 = .ok (.ireturn, 1) := by decide +kernel
theorem dW_611 : decode code 611 = .ok (.goto 1376, 3) := by decide +kernel
theorem dW_614 : decode code 614 = .ok (.aload_n 1, 1) := by decide +kernel
theorem dW_615 : decode code 615 = .ok (.aload_n 0, 1) := by decide +kernel
theorem dW_616 : decode code 616 = .ok (.iload 4, 2) := by decide +kernel
theorem dW_618 : decode code 618 = .ok (.iconst 1, 1) := by decide +kernel
theorem dW_619 : decode code 619 = .ok (.iadd, 1) := by decide +kernel
theorem dW_620 : decode code 620 = .ok (.iaload, 1) := by decide +kernel
theorem dW_621 : decode code 621 = .ok (.aload_n 0, 1) := by decide +kernel
theorem dW_622 : decode code 622 = .ok (.iload 4, 2) := by decide +kernel
theorem dW_624 : decode code 624 = .ok (.iconst 2, 1) := by decide +kernel
theorem dW_625 : decode code 625 = .ok (.iadd, 1) := by decide +kernel
theorem dW_626 : decode code 626 = .ok (.iaload, 1) := by decide +kernel
theorem dW_627 : decode code 627 = .ok (.aload_n 0, 1) := by decide +kernel
theorem dW_628 : decode code 628 = .ok (.iload 4, 2) := by decide +kernel
theorem dW_630 : decode code 630 = .ok (.iconst 3, 1) := by decide +kernel
theorem dW_631 : decode code 631 = .ok (.iadd, 1) := by decide +kernel
theorem dW_632 : decode code 632 = .ok (.iaload, 1) := by decide +kernel
theorem dW_633 : decode code 633 = .ok (.aload_n 0, 1) := by decide +kernel
theorem dW_634 : decode code 634 = .ok (.iload 4, 2) := by decide +kernel
theorem dW_636 : decode code 636 = .ok (.iconst 4, 1) := by decide +kernel
theorem dW_637 : decode code 637 = .ok (.iadd, 1) := by decide +kernel
theorem dW_638 : decode code 638 = .ok (.iaload, 1) := by decide +kernel
theorem dW_639 : decode code 639 = .ok (.aload_n 3, 1) := by decide +kernel
theorem dW_640 : decode code 640 = .ok (.invokestatic 135, 3) := by decide +kernel
theorem dW_643 : decode code 643 = .ok (.istore 5, 2) := by decide +kernel
theorem dW_645 : decode code 645 = .ok (.aload_n 2, 1) := by decide +kernel
theorem dW_646 : decode code 646 = .ok (.aload_n 0, 1) := by decide +kernel
theorem dW_647 : decode code 647 = .ok (.iload 4, 2) := by decide +kernel
theorem dW_649 : decode code 649 = .ok (.iconst 1, 1) := by decide +kernel
theorem dW_650 : decode code 650 = .ok (.iadd, 1) := by decide +kernel
theorem dW_651 : decode code 651 = .ok (.iaload, 1) := by decide +kernel
theorem dW_652 : decode code 652 = .ok (.aload_n 0, 1) := by decide +kernel
theorem dW_653 : decode code 653 = .ok (.iload 4, 2) := by decide +kernel
theorem dW_655 : decode code 655 = .ok (.iconst 2, 1) := by decide +kernel
theorem dW_656 : decode code 656 = .ok (.iadd, 1) := by decide +kernel
theorem dW_657 : decode code 657 = .ok (.iaload, 1) := by decide +kernel
theorem dW_658 : decode code 658 = .ok (.aload_n 0, 1) := by decide +kernel
theorem dW_659 : decode code 659 = .ok (.iload 4, 2) := by decide +kernel
theorem dW_661 : decode code 661 = .ok (.iconst 3, 1) := by decide +kernel
theorem dW_662 : decode code 662 = .ok (.iadd, 1) := by decide +kernel
theorem dW_663 : decode code 663 = .ok (.iaload, 1) := by decide +kernel
theorem dW_664 : decode code 664 = .ok (.aload_n 0, 1) := by decide +kernel
theorem dW_665 : decode code 665 = .ok (.iload 4, 2) := by decide +kernel
theorem dW_667 : decode code 667 = .ok (.iconst 4, 1) := by decide +kernel
theorem dW_668 : decode code 668 = .ok (.iadd, 1) := by decide +kernel
theorem dW_669 : decode code 669 = .ok (.iaload, 1) := by decide +kernel
theorem dW_670 : decode code 670 = .ok (.invokevirtual 138, 3) := by decide +kernel
theorem dW_673 : decode code 673 = .ok (.istore 6, 2) := by decide +kernel
theorem dW_675 : decode code 675 = .ok (.aload_n 2, 1) := by decide +kernel
theorem dW_676 : decode code 676 = .ok (.invokevirtual 112, 3) := by decide +kernel
theorem dW_679 : decode code 679 = .ok (.iload 5, 2) := by decide +kernel
theorem dW_681 : decode code 681 = .ok (.if_icmp .eq 5, 3) := by decide +kernel
theorem dW_684 : decode code 684 = .ok (.iconst 0, 1) := by decide +kernel
theorem dW_685 : decode code 685 = .ok (.ireturn, 1) := by decide +kernel
theorem dW_686 : decode code 686 = .ok (.iload 5, 2) := by decide +kernel
theorem dW_688 : decode code 688 = .ok (.ifCond .ne 15, 3) := by decide +kernel
theorem dW_691 : decode code 691 = .ok (.aload_n 3, 1) := by decide +kernel
theorem dW_692 : decode code 692 = .ok (.iconst 0, 1) := by decide +kernel
theorem dW_693 : decode code 693 = .ok (.laload, 1) := by decide +kernel
theorem dW_694 : decode code 694 = .ok (.iload 6, 2) := by decide +kernel
theorem dW_696 : decode code 696 = .ok (.i2l, 1) := by decide +kernel
theorem dW_697 : decode code 697 = .ok (.lcmp, 1) := by decide +kernel
theorem dW_698 : decode code 698 = .ok (.ifCond .eq 5, 3) := by decide +kernel
theorem dW_701 : decode code 701 = .ok (.iconst 0, 1) := by decide +kernel
theorem dW_702 : decode code 702 = .ok (.ireturn, 1) := by decide +kernel
theorem dW_703 : decode code 703 = .ok (.goto 1284, 3) := by decide +kernel
theorem dW_706 : decode code 706 = .ok (.aload_n 1, 1) := by decide +kernel
theorem dW_707 : decode code 707 = .ok (.aload_n 0, 1) := by decide +kernel
theorem dW_708 : decode code 708 = .ok (.iload 4, 2) := by decide +kernel
theorem dW_710 : decode code 710 = .ok (.iconst 1, 1) := by decide +kernel
theorem dW_711 : decode code 711 = .ok (.iadd, 1) := by decide +kernel
theorem dW_712 : decode code 712 = .ok (.iaload, 1) := by decide +kernel
theorem dW_713 : decode code 713 = .ok (.aload_n 3, 1) := by decide +kernel
theorem dW_714 : decode code 714 = .ok (.invokestatic 139, 3) := by decide +kernel
theorem dW_717 : decode code 717 = .ok (.istore 5, 2) := by decide +kernel
theorem dW_719 : decode code 719 = .ok (.aload_n 2, 1) := by decide +kernel
theorem dW_720 : decode code 720 = .ok (.aload_n 0, 1) := by decide +kernel
theorem dW_721 : decode code 721 = .ok (.iload 4, 2) := by decide +kernel
theorem dW_723 : decode code 723 = .ok (.iconst 1, 1) := by decide +kernel
theorem dW_724 : decode code 724 = .ok (.iadd, 1) := by decide +kernel
theorem dW_725 : decode code 725 = .ok (.iaload, 1) := by decide +kernel
theorem dW_726 : decode code 726 = .ok (.invokevirtual 141, 3) := by decide +kernel
theorem dW_729 : decode code 729 = .ok (.istore 6, 2) := by decide +kernel
theorem dW_731 : decode code 731 = .ok (.aload_n 2, 1) := by decide +kernel
theorem dW_732 : decode code 732 = .ok (.invokevirtual 112, 3) := by decide +kernel
theorem dW_735 : decode code 735 = .ok (.iload 5, 2) := by decide +kernel
theorem dW_737 : decode code 737 = .ok (.if_icmp .eq 5, 3) := by decide +kernel
theorem dW_740 : decode code 740 = .ok (.iconst 0, 1) := by decide +kernel
theorem dW_741 : decode code 741 = .ok (.ireturn, 1) := by decide +kernel
theorem dW_742 : decode code 742 = .ok (.iload 5, 2) := by decide +kernel
theorem dW_744 : decode code 744 = .ok (.ifCond .ne 15, 3) := by decide +kernel
theorem dW_747 : decode code 747 = .ok (.aload_n 3, 1) := by decide +kernel
theorem dW_748 : decode code 748 = .ok (.iconst 0, 1) := by decide +kernel
theorem dW_749 : decode code 749 = .ok (.laload, 1) := by decide +kernel
theorem dW_750 : decode code 750 = .ok (.iload 6, 2) := by decide +kernel
theorem dW_752 : decode code 752 = .ok (.i2l, 1) := by decide +kernel
theorem dW_753 : decode code 753 = .ok (.lcmp, 1) := by decide +kernel
theorem dW_754 : decode code 754 = .ok (.ifCond .eq 5, 3) := by decide +kernel
theorem dW_757 : decode code 757 = .ok (.iconst 0, 1) := by decide +kernel
theorem dW_758 : decode code 758 = .ok (.ireturn, 1) := by decide +kernel
theorem dW_759 : decode code 759 = .ok (.goto 1228, 3) := by decide +kernel
theorem dW_762 : decode code 762 = .ok (.aload_n 1, 1) := by decide +kernel
theorem dW_763 : decode code 763 = .ok (.aload_n 0, 1) := by decide +kernel
theorem dW_764 : decode code 764 = .ok (.iload 4, 2) := by decide +kernel
theorem dW_766 : decode code 766 = .ok (.iconst 1, 1) := by decide +kernel
theorem dW_767 : decode code 767 = .ok (.iadd, 1) := by decide +kernel
theorem dW_768 : decode code 768 = .ok (.iaload, 1) := by decide +kernel
theorem dW_769 : decode code 769 = .ok (.aload_n 0, 1) := by decide +kernel
theorem dW_770 : decode code 770 = .ok (.iload 4, 2) := by decide +kernel
theorem dW_772 : decode code 772 = .ok (.iconst 2, 1) := by decide +kernel
theorem dW_773 : decode code 773 = .ok (.iadd, 1) := by decide +kernel
theorem dW_774 : decode code 774 = .ok (.iaload, 1) := by decide +kernel
theorem dW_775 : decode code 775 = .ok (.aload_n 0, 1) := by decide +kernel
theorem dW_776 : decode code 776 = .ok (.iload 4, 2) := by decide +kernel
theorem dW_778 : decode code 778 = .ok (.iconst 3, 1) := by decide +kernel
theorem dW_779 : decode code 779 = .ok (.iadd, 1) := by decide +kernel
theorem dW_780 : decode code 780 = .ok (.iaload, 1) := by decide +kernel
theorem dW_781 : decode code 781 = .ok (.aload_n 0, 1) := by decide +kernel
theorem dW_782 : decode code 782 = .ok (.iload 4, 2) := by decide +kernel
theorem dW_784 : decode code 784 = .ok (.iconst 4, 1) := by decide +kernel
theorem dW_785 : decode code 785 = .ok (.iadd, 1) := by decide +kernel
theorem dW_786 : decode code 786 = .ok (.iaload, 1) := by decide +kernel
theorem dW_787 : decode code 787 = .ok (.aload_n 3, 1) := by decide +kernel
theorem dW_788 : decode code 788 = .ok (.invokestatic 142, 3) := by decide +kernel
theorem dW_791 : decode code 791 = .ok (.istore 5, 2) := by decide +kernel
theorem dW_793 : decode code 793 = .ok (.aload_n 2, 1) := by decide +kernel
theorem dW_794 : decode code 794 = .ok (.aload_n 0, 1) := by decide +kernel
theorem dW_795 : decode code 795 = .ok (.iload 4, 2) := by decide +kernel
theorem dW_797 : decode code 797 = .ok (.iconst 1, 1) := by decide +kernel
theorem dW_798 : decode code 798 = .ok (.iadd, 1) := by decide +kernel
theorem dW_799 : decode code 799 = .ok (.iaload, 1) := by decide +kernel
theorem dW_800 : decode code 800 = .ok (.aload_n 0, 1) := by decide +kernel
theorem dW_801 : decode code 801 = .ok (.iload 4, 2) := by decide +kernel
theorem dW_803 : decode code 803 = .ok (.iconst 2, 1) := by decide +kernel
theorem dW_804 : decode code 804 = .ok (.iadd, 1) := by decide +kernel
theorem dW_805 : decode code 805 = .ok (.iaload, 1) := by decide +kernel
theorem dW_806 : decode code 806 = .ok (.aload_n 0, 1) := by decide +kernel
theorem dW_807 : decode code 807 = .ok (.iload 4, 2) := by decide +kernel
theorem dW_809 : decode code 809 = .ok (.iconst 3, 1) := by decide +kernel
theorem dW_810 : decode code 810 = .ok (.iadd, 1) := by decide +kernel
theorem dW_811 : decode code 811 = .ok (.iaload, 1) := by decide +kernel
theorem dW_812 : decode code 812 = .ok (.aload_n 0, 1) := by decide +kernel
theorem dW_813 : decode code 813 = .ok (.iload 4, 2) := by decide +kernel
theorem dW_815 : decode code 815 = .ok (.iconst 4, 1) := by decide +kernel
theorem dW_816 : decode code 816 = .ok (.iadd, 1) := by decide +kernel
theorem dW_817 : decode code 817 = .ok (.iaload, 1) := by decide +kernel
theorem dW_818 : decode code 818 = .ok (.invokevirtual 144, 3) := by decide +kernel
theorem dW_821 : decode code 821 = .ok (.istore 6, 2) := by decide +kernel
theorem dW_823 : decode code 823 = .ok (.aload_n 2, 1) := by decide +kernel
theorem dW_824 : decode code 824 = .ok (.invokevirtual 112, 3) := by decide +kernel
theorem dW_827 : decode code 827 = .ok (.iload 5, 2) := by decide +kernel
theorem dW_829 : decode code 829 = .ok (.if_icmp .eq 5, 3) := by decide +kernel
theorem dW_832 : decode code 832 = .ok (.iconst 0, 1) := by decide +kernel
theorem dW_833 : decode code 833 = .ok (.ireturn, 1) := by decide +kernel
theorem dW_834 : decode code 834 = .ok (.iload 5, 2) := by decide +kernel
theorem dW_836 : decode code 836 = .ok (.ifCond .ne 15, 3) := by decide +kernel
theorem dW_839 : decode code 839 = .ok (.aload_n 3, 1) := by decide +kernel
theorem dW_840 : decode code 840 = .ok (.iconst 0, 1) := by decide +kernel
theorem dW_841 : decode code 841 = .ok (.laload, 1) := by decide +kernel
theorem dW_842 : decode code 842 = .ok (.iload 6, 2) := by decide +kernel
theorem dW_844 : decode code 844 = .ok (.i2l, 1) := by decide +kernel
theorem dW_845 : decode code 845 = .ok (.lcmp, 1) := by decide +kernel
theorem dW_846 : decode code 846 = .ok (.ifCond .eq 5, 3) := by decide +kernel
theorem dW_849 : decode code 849 = .ok (.iconst 0, 1) := by decide +kernel
theorem dW_850 : decode code 850 = .ok (.ireturn, 1) := by decide +kernel
theorem dW_851 : decode code 851 = .ok (.goto 1136, 3) := by decide +kernel
theorem dW_854 : decode code 854 = .ok (.aload_n 1, 1) := by decide +kernel
theorem dW_855 : decode code 855 = .ok (.invokevirtual 145, 3) := by decide +kernel
theorem dW_858 : decode code 858 = .ok (.aload_n 2, 1) := by decide +kernel
theorem dW_859 : decode code 859 = .ok (.invokevirtual 148, 3) := by decide +kernel
theorem dW_862 : decode code 862 = .ok (.if_icmp .eq 1125, 3) := by decide +kernel
theorem dW_865 : decode code 865 = .ok (.iconst 0, 1) := by decide +kernel
theorem dW_866 : decode code 866 = .ok (.ireturn, 1) := by decide +kernel
theorem dW_867 : decode code 867 = .ok (.aload_n 1, 1) := by decide +kernel
theorem dW_868 : decode code 868 = .ok (.aload_n 0, 1) := by decide +kernel
theorem dW_869 : decode code 869 = .ok (.iload 4, 2) := by decide +kernel
theorem dW_871 : decode code 871 = .ok (.iconst 1, 1) := by decide +kernel
theorem dW_872 : decode code 872 = .ok (.iadd, 1) := by decide +kernel
theorem dW_873 : decode code 873 = .ok (.iaload, 1) := by decide +kernel
theorem dW_874 : decode code 874 = .ok (.aload_n 0, 1) := by decide +kernel
theorem dW_875 : decode code 875 = .ok (.iload 4, 2) := by decide +kernel
theorem dW_877 : decode code 877 = .ok (.iconst 2, 1) := by decide +kernel
theorem dW_878 : decode code 878 = .ok (.iadd, 1) := by decide +kernel
theorem dW_879 : decode code 879 = .ok (.iaload, 1) := by decide +kernel
theorem dW_880 : decode code 880 = .ok (.aload_n 3, 1) := by decide +kernel
theorem dW_881 : decode code 881 = .ok (.invokestatic 149, 3) := by decide +kernel
theorem dW_884 : decode code 884 = .ok (.istore 5, 2) := by decide +kernel
theorem dW_886 : decode code 886 = .ok (.aload_n 2, 1) := by decide +kernel
theorem dW_887 : decode code 887 = .ok (.aload_n 0, 1) := by decide +kernel
theorem dW_888 : decode code 888 = .ok (.iload 4, 2) := by decide +kernel
theorem dW_890 : decode code 890 = .ok (.iconst 1, 1) := by decide +kernel
theorem dW_891 : decode code 891 = .ok (.iadd, 1) := by decide +kernel
theorem dW_892 : decode code 892 = .ok (.iaload, 1) := by decide +kernel
theorem dW_893 : decode code 893 = .ok (.aload_n 0, 1) := by decide +kernel
theorem dW_894 : decode code 894 = .ok (.iload 4, 2) := by decide +kernel
theorem dW_896 : decode code 896 = .ok (.iconst 2, 1) := by decide +kernel
theorem dW_897 : decode code 897 = .ok (.iadd, 1) := by decide +kernel
theorem dW_898 : decode code 898 = .ok (.iaload, 1) := by decide +kernel
theorem dW_899 : decode code 899 = .ok (.invokevirtual 152, 3) := by decide +kernel
theorem dW_902 : decode code 902 = .ok (.istore 6, 2) := by decide +kernel
theorem dW_904 : decode code 904 = .ok (.aload_n 2, 1) := by decide +kernel
theorem dW_905 : decode code 905 = .ok (.invokevirtual 112, 3) := by decide +kernel
theorem dW_908 : decode code 908 = .ok (.iload 5, 2) := by decide +kernel
theorem dW_910 : decode code 910 = .ok (.if_icmp .eq 5, 3) := by decide +kernel
theorem dW_913 : decode code 913 = .ok (.iconst 0, 1) := by decide +kernel
theorem dW_914 : decode code 914 = .ok (.ireturn, 1) := by decide +kernel
theorem dW_915 : decode code 915 = .ok (.iload 5, 2) := by decide +kernel
theorem dW_917 : decode code 917 = .ok (.ifCond .ne 15, 3) := by decide +kernel
theorem dW_920 : decode code 920 = .ok (.aload_n 3, 1) := by decide +kernel
theorem dW_921 : decode code 921 = .ok (.iconst 0, 1) := by decide +kernel
theorem dW_922 : decode code 922 = .ok (.laload, 1) := by decide +kernel
theorem dW_923 : decode code 923 = .ok (.iload 6, 2) := by decide +kernel
theorem dW_925 : decode code 925 = .ok (.i2l, 1) := by decide +kernel
theorem dW_926 : decode code 926 = .ok (.lcmp, 1) := by decide +kernel
theorem dW_927 : decode code 927 = .ok (.ifCond .eq 5, 3) := by decide +kernel
theorem dW_930 : decode code 930 = .ok (.iconst 0, 1) := by decide +kernel
theorem dW_931 : decode code 931 = .ok (.ireturn, 1) := by decide +kernel
theorem dW_932 : decode code 932 = .ok (.goto 1055, 3) := by decide +kernel
theorem dW_935 : decode code 935 = .ok (.aload_n 1, 1) := by decide +kernel
theorem dW_936 : decode code 936 = .ok (.invokevirtual 153, 3) := by decide +kernel
theorem dW_939 : decode code 939 = .ok (.aload_n 2, 1) := by decide +kernel
theorem dW_940 : decode code 940 = .ok (.invokevirtual 156, 3) := by decide +kernel
theorem dW_943 : decode code 943 = .ok (.if_icmp .eq 1044, 3) := by decide +kernel
theorem dW_946 : decode code 946 = .ok (.iconst 0, 1) := by decide +kernel
theorem dW_947 : decode code 947 = .ok (.ireturn, 1) := by decide +kernel
theorem dW_948 : decode code 948 = .ok (.aload_n 1, 1) := by decide +kernel
theorem dW_949 : decode code 949 = .ok (.invokevirtual 157, 3) := by decide +kernel
theorem dW_952 : decode code 952 = .ok (.aload_n 2, 1) := by decide +kernel
theorem dW_953 : decode code 953 = .ok (.invokevirtual 160, 3) := by decide +kernel
theorem dW_956 : decode code 956 = .ok (.if_icmp .eq 1031, 3) := by decide +kernel
theorem dW_959 : decode code 959 = .ok (.iconst 0, 1) := by decide +kernel
theorem dW_960 : decode code 960 = .ok (.ireturn, 1) := by decide +kernel
theorem dW_961 : decode code 961 = .ok (.aload_n 1, 1) := by decide +kernel
theorem dW_962 : decode code 962 = .ok (.invokevirtual 161, 3) := by decide +kernel
theorem dW_965 : decode code 965 = .ok (.aload_n 2, 1) := by decide +kernel
theorem dW_966 : decode code 966 = .ok (.invokevirtual 164, 3) := by decide +kernel
theorem dW_969 : decode code 969 = .ok (.if_icmp .eq 1018, 3) := by decide +kernel
theorem dW_972 : decode code 972 = .ok (.iconst 0, 1) := by decide +kernel
theorem dW_973 : decode code 973 = .ok (.ireturn, 1) := by decide +kernel
theorem dW_974 : decode code 974 = .ok (.aload_n 1, 1) := by decide +kernel
theorem dW_975 : decode code 975 = .ok (.aload_n 0, 1) := by decide +kernel
theorem dW_976 : decode code 976 = .ok (.iload 4, 2) := by decide +kernel
theorem dW_978 : decode code 978 = .ok (.iconst 1, 1) := by decide +kernel
theorem dW_979 : decode code 979 = .ok (.iadd, 1) := by decide +kernel
theorem dW_980 : decode code 980 = .ok (.iaload, 1) := by decide +kernel
theorem dW_981 : decode code 981 = .ok (.aload_n 3, 1) := by decide +kernel
theorem dW_982 : decode code 982 = .ok (.invokestatic 165, 3) := by decide +kernel
theorem dW_985 : decode code 985 = .ok (.istore 5, 2) := by decide +kernel
theorem dW_987 : decode code 987 = .ok (.aload_n 2, 1) := by decide +kernel
theorem dW_988 : decode code 988 = .ok (.aload_n 0, 1) := by decide +kernel
theorem dW_989 : decode code 989 = .ok (.iload 4, 2) := by decide +kernel
theorem dW_991 : decode code 991 = .ok (.iconst 1, 1) := by decide +kernel
theorem dW_992 : decode code 992 = .ok (.iadd, 1) := by decide +kernel
theorem dW_993 : decode code 993 = .ok (.iaload, 1) := by decide +kernel
theorem dW_994 : decode code 994 = .ok (.invokevirtual 167, 3) := by decide +kernel
theorem dW_997 : decode code 997 = .ok (.istore 6, 2) := by decide +kernel
theorem dW_999 : decode code 999 = .ok (.aload_n 2, 1) := by decide +kernel
theorem dW_1000 : decode code 1000 = .ok (.invokevirtual 112, 3) := by decide +kernel
theorem dW_1003 : decode code 1003 = .ok (.iload 5, 2) := by decide +kernel
theorem dW_1005 : decode code 1005 = .ok (.if_icmp .eq 5, 3) := by decide +kernel
theorem dW_1008 : decode code 1008 = .ok (.iconst 0, 1) := by decide +kernel
theorem dW_1009 : decode code 1009 = .ok (.ireturn, 1) := by decide +kernel
theorem dW_1010 : decode code 1010 = .ok (.iload 5, 2) := by decide +kernel
theorem dW_1012 : decode code 1012 = .ok (.ifCond .ne 15, 3) := by decide +kernel
theorem dW_1015 : decode code 1015 = .ok (.aload_n 3, 1) := by decide +kernel
theorem dW_1016 : decode code 1016 = .ok (.iconst 0, 1) := by decide +kernel
theorem dW_1017 : decode code 1017 = .ok (.laload, 1) := by decide +kernel
theorem dW_1018 : decode code 1018 = .ok (.iload 6, 2) := by decide +kernel
theorem dW_1020 : decode code 1020 = .ok (.i2l, 1) := by decide +kernel
theorem dW_1021 : decode code 1021 = .ok (.lcmp, 1) := by decide +kernel
theorem dW_1022 : decode code 1022 = .ok (.ifCond .eq 5, 3) := by decide +kernel
theorem dW_1025 : decode code 1025 = .ok (.iconst 0, 1) := by decide +kernel
theorem dW_1026 : decode code 1026 = .ok (.ireturn, 1) := by decide +kernel
theorem dW_1027 : decode code 1027 = .ok (.goto 960, 3) := by decide +kernel
theorem dW_1030 : decode code 1030 = .ok (.aload_n 1, 1) := by decide +kernel
theorem dW_1031 : decode code 1031 = .ok (.aload_n 0, 1) := by decide +kernel
theorem dW_1032 : decode code 1032 = .ok (.iload 4, 2) := by decide +kernel
theorem dW_1034 : decode code 1034 = .ok (.iconst 1, 1) := by decide +kernel
theorem dW_1035 : decode code 1035 = .ok (.iadd, 1) := by decide +kernel
theorem dW_1036 : decode code 1036 = .ok (.iaload, 1) := by decide +kernel
theorem dW_1037 : decode code 1037 = .ok (.aload_n 0, 1) := by decide +kernel
theorem dW_1038 : decode code 1038 = .ok (.iload 4, 2) := by decide +kernel
theorem dW_1040 : decode code 1040 = .ok (.iconst 2, 1) := by decide +kernel
theorem dW_1041 : decode code 1041 = .ok (.iadd, 1) := by decide +kernel
theorem dW_1042 : decode code 1042 = .ok (.iaload, 1) := by decide +kernel
theorem dW_1043 : decode code 1043 = .ok (.aload_n 3, 1) := by decide +kernel
theorem dW_1044 : decode code 1044 = .ok (.invokestatic 168, 3) := by decide +kernel
theorem dW_1047 : decode code 1047 = .ok (.istore 5, 2) := by decide +kernel
