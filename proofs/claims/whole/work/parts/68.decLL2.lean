theorem d_L_law_666 : decode c_L_law 666 = .ok (.land, 1) := by decide +kernel
theorem d_L_law_667 : decode c_L_law 667 = .ok (.lor, 1) := by decide +kernel
theorem d_L_law_668 : decode c_L_law 668 = .ok (.invokevirtual 111, 3) := by decide +kernel
theorem d_L_law_671 : decode c_L_law 671 = .ok (.istore 6, 2) := by decide +kernel
theorem d_L_law_673 : decode c_L_law 673 = .ok (.aload_n 2, 1) := by decide +kernel
theorem d_L_law_674 : decode c_L_law 674 = .ok (.invokevirtual 89, 3) := by decide +kernel
theorem d_L_law_677 : decode c_L_law 677 = .ok (.iload 5, 2) := by decide +kernel
theorem d_L_law_679 : decode c_L_law 679 = .ok (.if_icmp .eq 5, 3) := by decide +kernel
theorem d_L_law_682 : decode c_L_law 682 = .ok (.iconst 0, 1) := by decide +kernel
theorem d_L_law_683 : decode c_L_law 683 = .ok (.ireturn, 1) := by decide +kernel
theorem d_L_law_684 : decode c_L_law 684 = .ok (.iload 5, 2) := by decide +kernel
theorem d_L_law_686 : decode c_L_law 686 = .ok (.ifCond .ne 15, 3) := by decide +kernel
theorem d_L_law_689 : decode c_L_law 689 = .ok (.aload_n 3, 1) := by decide +kernel
theorem d_L_law_690 : decode c_L_law 690 = .ok (.iconst 0, 1) := by decide +kernel
theorem d_L_law_691 : decode c_L_law 691 = .ok (.laload, 1) := by decide +kernel
theorem d_L_law_692 : decode c_L_law 692 = .ok (.iload 6, 2) := by decide +kernel
theorem d_L_law_694 : decode c_L_law 694 = .ok (.i2l, 1) := by decide +kernel
theorem d_L_law_695 : decode c_L_law 695 = .ok (.lcmp, 1) := by decide +kernel
theorem d_L_law_696 : decode c_L_law 696 = .ok (.ifCond .eq 5, 3) := by decide +kernel
theorem d_L_law_699 : decode c_L_law 699 = .ok (.iconst 0, 1) := by decide +kernel
theorem d_L_law_700 : decode c_L_law 700 = .ok (.ireturn, 1) := by decide +kernel
theorem d_L_law_701 : decode c_L_law 701 = .ok (.goto 705, 3) := by decide +kernel
theorem d_L_law_704 : decode c_L_law 704 = .ok (.aload_n 1, 1) := by decide +kernel
theorem d_L_law_705 : decode c_L_law 705 = .ok (.aload_n 0, 1) := by decide +kernel
theorem d_L_law_706 : decode c_L_law 706 = .ok (.iload 4, 2) := by decide +kernel
theorem d_L_law_708 : decode c_L_law 708 = .ok (.iconst 1, 1) := by decide +kernel
theorem d_L_law_709 : decode c_L_law 709 = .ok (.iadd, 1) := by decide +kernel
theorem d_L_law_710 : decode c_L_law 710 = .ok (.iaload, 1) := by decide +kernel
theorem d_L_law_711 : decode c_L_law 711 = .ok (.aload_n 0, 1) := by decide +kernel
theorem d_L_law_712 : decode c_L_law 712 = .ok (.iload 4, 2) := by decide +kernel
theorem d_L_law_714 : decode c_L_law 714 = .ok (.iconst 2, 1) := by decide +kernel
theorem d_L_law_715 : decode c_L_law 715 = .ok (.iadd, 1) := by decide +kernel
theorem d_L_law_716 : decode c_L_law 716 = .ok (.iaload, 1) := by decide +kernel
theorem d_L_law_717 : decode c_L_law 717 = .ok (.aload_n 3, 1) := by decide +kernel
theorem d_L_law_718 : decode c_L_law 718 = .ok (.invokestatic 112, 3) := by decide +kernel
theorem d_L_law_721 : decode c_L_law 721 = .ok (.istore 5, 2) := by decide +kernel
theorem d_L_law_723 : decode c_L_law 723 = .ok (.aload_n 2, 1) := by decide +kernel
theorem d_L_law_724 : decode c_L_law 724 = .ok (.aload_n 0, 1) := by decide +kernel
theorem d_L_law_725 : decode c_L_law 725 = .ok (.iload 4, 2) := by decide +kernel
theorem d_L_law_727 : decode c_L_law 727 = .ok (.iconst 1, 1) := by decide +kernel
theorem d_L_law_728 : decode c_L_law 728 = .ok (.iadd, 1) := by decide +kernel
theorem d_L_law_729 : decode c_L_law 729 = .ok (.iaload, 1) := by decide +kernel
theorem d_L_law_730 : decode c_L_law 730 = .ok (.aload_n 0, 1) := by decide +kernel
theorem d_L_law_731 : decode c_L_law 731 = .ok (.iload 4, 2) := by decide +kernel
theorem d_L_law_733 : decode c_L_law 733 = .ok (.iconst 2, 1) := by decide +kernel
theorem d_L_law_734 : decode c_L_law 734 = .ok (.iadd, 1) := by decide +kernel
theorem d_L_law_735 : decode c_L_law 735 = .ok (.iaload, 1) := by decide +kernel
theorem d_L_law_736 : decode c_L_law 736 = .ok (.invokevirtual 114, 3) := by decide +kernel
theorem d_L_law_739 : decode c_L_law 739 = .ok (.istore 6, 2) := by decide +kernel
theorem d_L_law_741 : decode c_L_law 741 = .ok (.aload_n 2, 1) := by decide +kernel
theorem d_L_law_742 : decode c_L_law 742 = .ok (.invokevirtual 89, 3) := by decide +kernel
theorem d_L_law_745 : decode c_L_law 745 = .ok (.iload 5, 2) := by decide +kernel
theorem d_L_law_747 : decode c_L_law 747 = .ok (.if_icmp .eq 5, 3) := by decide +kernel
theorem d_L_law_750 : decode c_L_law 750 = .ok (.iconst 0, 1) := by decide +kernel
theorem d_L_law_751 : decode c_L_law 751 = .ok (.ireturn, 1) := by decide +kernel
theorem d_L_law_752 : decode c_L_law 752 = .ok (.iload 5, 2) := by decide +kernel
theorem d_L_law_754 : decode c_L_law 754 = .ok (.ifCond .ne 15, 3) := by decide +kernel
theorem d_L_law_757 : decode c_L_law 757 = .ok (.aload_n 3, 1) := by decide +kernel
theorem d_L_law_758 : decode c_L_law 758 = .ok (.iconst 0, 1) := by decide +kernel
theorem d_L_law_759 : decode c_L_law 759 = .ok (.laload, 1) := by decide +kernel
theorem d_L_law_760 : decode c_L_law 760 = .ok (.iload 6, 2) := by decide +kernel
theorem d_L_law_762 : decode c_L_law 762 = .ok (.i2l, 1) := by decide +kernel
theorem d_L_law_763 : decode c_L_law 763 = .ok (.lcmp, 1) := by decide +kernel
theorem d_L_law_764 : decode c_L_law 764 = .ok (.ifCond .eq 5, 3) := by decide +kernel
theorem d_L_law_767 : decode c_L_law 767 = .ok (.iconst 0, 1) := by decide +kernel
theorem d_L_law_768 : decode c_L_law 768 = .ok (.ireturn, 1) := by decide +kernel
theorem d_L_law_769 : decode c_L_law 769 = .ok (.goto 637, 3) := by decide +kernel
theorem d_L_law_772 : decode c_L_law 772 = .ok (.aload_n 1, 1) := by decide +kernel
theorem d_L_law_773 : decode c_L_law 773 = .ok (.aload_n 0, 1) := by decide +kernel
theorem d_L_law_774 : decode c_L_law 774 = .ok (.iload 4, 2) := by decide +kernel
theorem d_L_law_776 : decode c_L_law 776 = .ok (.iconst 1, 1) := by decide +kernel
theorem d_L_law_777 : decode c_L_law 777 = .ok (.iadd, 1) := by decide +kernel
theorem d_L_law_778 : decode c_L_law 778 = .ok (.iaload, 1) := by decide +kernel
theorem d_L_law_779 : decode c_L_law 779 = .ok (.aload_n 0, 1) := by decide +kernel
theorem d_L_law_780 : decode c_L_law 780 = .ok (.iload 4, 2) := by decide +kernel
theorem d_L_law_782 : decode c_L_law 782 = .ok (.iconst 2, 1) := by decide +kernel
theorem d_L_law_783 : decode c_L_law 783 = .ok (.iadd, 1) := by decide +kernel
theorem d_L_law_784 : decode c_L_law 784 = .ok (.iaload, 1) := by decide +kernel
theorem d_L_law_785 : decode c_L_law 785 = .ok (.aload_n 3, 1) := by decide +kernel
theorem d_L_law_786 : decode c_L_law 786 = .ok (.invokestatic 115, 3) := by decide +kernel
theorem d_L_law_789 : decode c_L_law 789 = .ok (.istore 5, 2) := by decide +kernel
theorem d_L_law_791 : decode c_L_law 791 = .ok (.aload_n 2, 1) := by decide +kernel
theorem d_L_law_792 : decode c_L_law 792 = .ok (.aload_n 0, 1) := by decide +kernel
theorem d_L_law_793 : decode c_L_law 793 = .ok (.iload 4, 2) := by decide +kernel
theorem d_L_law_795 : decode c_L_law 795 = .ok (.iconst 1, 1) := by decide +kernel
theorem d_L_law_796 : decode c_L_law 796 = .ok (.iadd, 1) := by decide +kernel
theorem d_L_law_797 : decode c_L_law 797 = .ok (.iaload, 1) := by decide +kernel
theorem d_L_law_798 : decode c_L_law 798 = .ok (.aload_n 0, 1) := by decide +kernel
theorem d_L_law_799 : decode c_L_law 799 = .ok (.iload 4, 2) := by decide +kernel
theorem d_L_law_801 : decode c_L_law 801 = .ok (.iconst 2, 1) := by decide +kernel
theorem d_L_law_802 : decode c_L_law 802 = .ok (.iadd, 1) := by decide +kernel
theorem d_L_law_803 : decode c_L_law 803 = .ok (.iaload, 1) := by decide +kernel
theorem d_L_law_804 : decode c_L_law 804 = .ok (.invokevirtual 117, 3) := by decide +kernel
theorem d_L_law_807 : decode c_L_law 807 = .ok (.istore 6, 2) := by decide +kernel
theorem d_L_law_809 : decode c_L_law 809 = .ok (.aload_n 2, 1) := by decide +kernel
theorem d_L_law_810 : decode c_L_law 810 = .ok (.invokevirtual 89, 3) := by decide +kernel
theorem d_L_law_813 : decode c_L_law 813 = .ok (.iload 5, 2) := by decide +kernel
theorem d_L_law_815 : decode c_L_law 815 = .ok (.if_icmp .eq 5, 3) := by decide +kernel
theorem d_L_law_818 : decode c_L_law 818 = .ok (.iconst 0, 1) := by decide +kernel
theorem d_L_law_819 : decode c_L_law 819 = .ok (.ireturn, 1) := by decide +kernel
theorem d_L_law_820 : decode c_L_law 820 = .ok (.iload 5, 2) := by decide +kernel
theorem d_L_law_822 : decode c_L_law 822 = .ok (.ifCond .ne 15, 3) := by decide +kernel
theorem d_L_law_825 : decode c_L_law 825 = .ok (.aload_n 3, 1) := by decide +kernel
theorem d_L_law_826 : decode c_L_law 826 = .ok (.iconst 0, 1) := by decide +kernel
theorem d_L_law_827 : decode c_L_law 827 = .ok (.laload, 1) := by decide +kernel
theorem d_L_law_828 : decode c_L_law 828 = .ok (.iload 6, 2) := by decide +kernel
theorem d_L_law_830 : decode c_L_law 830 = .ok (.i2l, 1) := by decide +kernel
theorem d_L_law_831 : decode c_L_law 831 = .ok (.lcmp, 1) := by decide +kernel
theorem d_L_law_832 : decode c_L_law 832 = .ok (.ifCond .eq 5, 3) := by decide +kernel
theorem d_L_law_835 : decode c_L_law 835 = .ok (.iconst 0, 1) := by decide +kernel
theorem d_L_law_836 : decode c_L_law 836 = .ok (.ireturn, 1) := by decide +kernel
theorem d_L_law_837 : decode c_L_law 837 = .ok (.goto 569, 3) := by decide +kernel
theorem d_L_law_840 : decode c_L_law 840 = .ok (.aload_n 1, 1) := by decide +kernel
theorem d_L_law_841 : decode c_L_law 841 = .ok (.aload_n 0, 1) := by decide +kernel
theorem d_L_law_842 : decode c_L_law 842 = .ok (.iload 4, 2) := by decide +kernel
theorem d_L_law_844 : decode c_L_law 844 = .ok (.iconst 1, 1) := by decide +kernel
theorem d_L_law_845 : decode c_L_law 845 = .ok (.iadd, 1) := by decide +kernel
theorem d_L_law_846 : decode c_L_law 846 = .ok (.iaload, 1) := by decide +kernel
theorem d_L_law_847 : decode c_L_law 847 = .ok (.aload_n 0, 1) := by decide +kernel
theorem d_L_law_848 : decode c_L_law 848 = .ok (.iload 4, 2) := by decide +kernel
theorem d_L_law_850 : decode c_L_law 850 = .ok (.iconst 2, 1) := by decide +kernel
theorem d_L_law_851 : decode c_L_law 851 = .ok (.iadd, 1) := by decide +kernel
theorem d_L_law_852 : decode c_L_law 852 = .ok (.iaload, 1) := by decide +kernel
theorem d_L_law_853 : decode c_L_law 853 = .ok (.aload_n 3, 1) := by decide +kernel
theorem d_L_law_854 : decode c_L_law 854 = .ok (.invokestatic 118, 3) := by decide +kernel
theorem d_L_law_857 : decode c_L_law 857 = .ok (.istore 5, 2) := by decide +kernel
theorem d_L_law_859 : decode c_L_law 859 = .ok (.aload_n 2, 1) := by decide +kernel
theorem d_L_law_860 : decode c_L_law 860 = .ok (.aload_n 0, 1) := by decide +kernel
theorem d_L_law_861 : decode c_L_law 861 = .ok (.iload 4, 2) := by decide +kernel
theorem d_L_law_863 : decode c_L_law 863 = .ok (.iconst 1, 1) := by decide +kernel
theorem d_L_law_864 : decode c_L_law 864 = .ok (.iadd, 1) := by decide +kernel
theorem d_L_law_865 : decode c_L_law 865 = .ok (.iaload, 1) := by decide +kernel
theorem d_L_law_866 : decode c_L_law 866 = .ok (.aload_n 0, 1) := by decide +kernel
theorem d_L_law_867 : decode c_L_law 867 = .ok (.iload 4, 2) := by decide +kernel
theorem d_L_law_869 : decode c_L_law 869 = .ok (.iconst 2, 1) := by decide +kernel
theorem d_L_law_870 : decode c_L_law 870 = .ok (.iadd, 1) := by decide +kernel
theorem d_L_law_871 : decode c_L_law 871 = .ok (.iaload, 1) := by decide +kernel
theorem d_L_law_872 : decode c_L_law 872 = .ok (.invokevirtual 120, 3) := by decide +kernel
theorem d_L_law_875 : decode c_L_law 875 = .ok (.istore 6, 2) := by decide +kernel
theorem d_L_law_877 : decode c_L_law 877 = .ok (.aload_n 2, 1) := by decide +kernel
theorem d_L_law_878 : decode c_L_law 878 = .ok (.invokevirtual 89, 3) := by decide +kernel
theorem d_L_law_881 : decode c_L_law 881 = .ok (.iload 5, 2) := by decide +kernel
theorem d_L_law_883 : decode c_L_law 883 = .ok (.if_icmp .eq 5, 3) := by decide +kernel
theorem d_L_law_886 : decode c_L_law 886 = .ok (.iconst 0, 1) := by decide +kernel
theorem d_L_law_887 : decode c_L_law 887 = .ok (.ireturn, 1) := by decide +kernel
theorem d_L_law_888 : decode c_L_law 888 = .ok (.iload 5, 2) := by decide +kernel
theorem d_L_law_890 : decode c_L_law 890 = .ok (.ifCond .ne 15, 3) := by decide +kernel
theorem d_L_law_893 : decode c_L_law 893 = .ok (.aload_n 3, 1) := by decide +kernel
theorem d_L_law_894 : decode c_L_law 894 = .ok (.iconst 0, 1) := by decide +kernel
theorem d_L_law_895 : decode c_L_law 895 = .ok (.laload, 1) := by decide +kernel
theorem d_L_law_896 : decode c_L_law 896 = .ok (.iload 6, 2) := by decide +kernel
theorem d_L_law_898 : decode c_L_law 898 = .ok (.i2l, 1) := by decide +kernel
theorem d_L_law_899 : decode c_L_law 899 = .ok (.lcmp, 1) := by decide +kernel
theorem d_L_law_900 : decode c_L_law 900 = .ok (.ifCond .eq 5, 3) := by decide +kernel
theorem d_L_law_903 : decode c_L_law 903 = .ok (.iconst 0, 1) := by decide +kernel
theorem d_L_law_904 : decode c_L_law 904 = .ok (.ireturn, 1) := by decide +kernel
theorem d_L_law_905 : decode c_L_law 905 = .ok (.goto 501, 3) := by decide +kernel
theorem d_L_law_908 : decode c_L_law 908 = .ok (.aload_n 1, 1) := by decide +kernel
theorem d_L_law_909 : decode c_L_law 909 = .ok (.aload_n 0, 1) := by decide +kernel
theorem d_L_law_910 : decode c_L_law 910 = .ok (.iload 4, 2) := by decide +kernel
theorem d_L_law_912 : decode c_L_law 912 = .ok (.iconst 1, 1) := by decide +kernel
theorem d_L_law_913 : decode c_L_law 913 = .ok (.iadd, 1) := by decide +kernel
theorem d_L_law_914 : decode c_L_law 914 = .ok (.iaload, 1) := by decide +kernel
theorem d_L_law_915 : decode c_L_law 915 = .ok (.aload_n 0, 1) := by decide +kernel
theorem d_L_law_916 : decode c_L_law 916 = .ok (.iload 4, 2) := by decide +kernel
theorem d_L_law_918 : decode c_L_law 918 = .ok (.iconst 2, 1) := by decide +kernel
theorem d_L_law_919 : decode c_L_law 919 = .ok (.iadd, 1) := by decide +kernel
theorem d_L_law_920 : decode c_L_law 920 = .ok (.iaload, 1) := by decide +kernel
theorem d_L_law_921 : decode c_L_law 921 = .ok (.aload_n 3, 1) := by decide +kernel
theorem d_L_law_922 : decode c_L_law 922 = .ok (.invokestatic 121, 3) := by decide +kernel
theorem d_L_law_925 : decode c_L_law 925 = .ok (.istore 5, 2) := by decide +kernel
theorem d_L_law_927 : decode c_L_law 927 = .ok (.aload_n 2, 1) := by decide +kernel
theorem d_L_law_928 : decode c_L_law 928 = .ok (.aload_n 0, 1) := by decide +kernel
theorem d_L_law_929 : decode c_L_law 929 = .ok (.iload 4, 2) := by decide +kernel
theorem d_L_law_931 : decode c_L_law 931 = .ok (.iconst 1, 1) := by decide +kernel
theorem d_L_law_932 : decode c_L_law 932 = .ok (.iadd, 1) := by decide +kernel
theorem d_L_law_933 : decode c_L_law 933 = .ok (.iaload, 1) := by decide +kernel
theorem d_L_law_934 : decode c_L_law 934 = .ok (.aload_n 0, 1) := by decide +kernel
theorem d_L_law_935 : decode c_L_law 935 = .ok (.iload 4, 2) := by decide +kernel
theorem d_L_law_937 : decode c_L_law 937 = .ok (.iconst 2, 1) := by decide +kernel
theorem d_L_law_938 : decode c_L_law 938 = .ok (.iadd, 1) := by decide +kernel
theorem d_L_law_939 : decode c_L_law 939 = .ok (.iaload, 1) := by decide +kernel
theorem d_L_law_940 : decode c_L_law 940 = .ok (.invokevirtual 123, 3) := by decide +kernel
theorem d_L_law_943 : decode c_L_law 943 = .ok (.istore 6, 2) := by decide +kernel
theorem d_L_law_945 : decode c_L_law 945 = .ok (.aload_n 2, 1) := by decide +kernel
theorem d_L_law_946 : decode c_L_law 946 = .ok (.invokevirtual 89, 3) := by decide +kernel
theorem d_L_law_949 : decode c_L_law 949 = .ok (.iload 5, 2) := by decide +kernel
theorem d_L_law_951 : decode c_L_law 951 = .ok (.if_icmp .eq 5, 3) := by decide +kernel
theorem d_L_law_954 : decode c_L_law 954 = .ok (.iconst 0, 1) := by decide +kernel
theorem d_L_law_955 : decode c_L_law 955 = .ok (.ireturn, 1) := by decide +kernel
theorem d_L_law_956 : decode c_L_law 956 = .ok (.iload 5, 2) := by decide +kernel
theorem d_L_law_958 : decode c_L_law 958 = .ok (.ifCond .ne 22, 3) := by decide +kernel
theorem d_L_law_961 : decode c_L_law 961 = .ok (.aload_n 3, 1) := by decide +kernel
theorem d_L_law_962 : decode c_L_law 962 = .ok (.iconst 0, 1) := by decide +kernel
theorem d_L_law_963 : decode c_L_law 963 = .ok (.laload, 1) := by decide +kernel
theorem d_L_law_964 : decode c_L_law 964 = .ok (.iload 6, 2) := by decide +kernel
theorem d_L_law_966 : decode c_L_law 966 = .ok (.ifCond .eq 7, 3) := by decide +kernel
theorem d_L_law_969 : decode c_L_law 969 = .ok (.lconst 1, 1) := by decide +kernel
theorem d_L_law_970 : decode c_L_law 970 = .ok (.goto 4, 3) := by decide +kernel
theorem d_L_law_973 : decode c_L_law 973 = .ok (.lconst 0, 1) := by decide +kernel
