theorem d_La_law_734 : decode b_La_law 734 = .ok (.aload_n 1, 1) := by decide +kernel
theorem d_La_law_735 : decode b_La_law 735 = .ok (.aload_n 0, 1) := by decide +kernel
theorem d_La_law_736 : decode b_La_law 736 = .ok (.iload 4, 2) := by decide +kernel
theorem d_La_law_738 : decode b_La_law 738 = .ok (.iconst 1, 1) := by decide +kernel
theorem d_La_law_739 : decode b_La_law 739 = .ok (.iadd, 1) := by decide +kernel
theorem d_La_law_740 : decode b_La_law 740 = .ok (.iaload, 1) := by decide +kernel
theorem d_La_law_741 : decode b_La_law 741 = .ok (.aload_n 0, 1) := by decide +kernel
theorem d_La_law_742 : decode b_La_law 742 = .ok (.iload 4, 2) := by decide +kernel
theorem d_La_law_744 : decode b_La_law 744 = .ok (.iconst 2, 1) := by decide +kernel
theorem d_La_law_745 : decode b_La_law 745 = .ok (.iadd, 1) := by decide +kernel
theorem d_La_law_746 : decode b_La_law 746 = .ok (.iaload, 1) := by decide +kernel
theorem d_La_law_747 : decode b_La_law 747 = .ok (.aload_n 3, 1) := by decide +kernel
theorem d_La_law_748 : decode b_La_law 748 = .ok (.invokestatic 104, 3) := by decide +kernel
theorem d_La_law_751 : decode b_La_law 751 = .ok (.istore 5, 2) := by decide +kernel
theorem d_La_law_753 : decode b_La_law 753 = .ok (.aload_n 2, 1) := by decide +kernel
theorem d_La_law_754 : decode b_La_law 754 = .ok (.aload_n 0, 1) := by decide +kernel
theorem d_La_law_755 : decode b_La_law 755 = .ok (.iload 4, 2) := by decide +kernel
theorem d_La_law_757 : decode b_La_law 757 = .ok (.iconst 1, 1) := by decide +kernel
theorem d_La_law_758 : decode b_La_law 758 = .ok (.iadd, 1) := by decide +kernel
theorem d_La_law_759 : decode b_La_law 759 = .ok (.iaload, 1) := by decide +kernel
theorem d_La_law_760 : decode b_La_law 760 = .ok (.aload_n 0, 1) := by decide +kernel
theorem d_La_law_761 : decode b_La_law 761 = .ok (.iload 4, 2) := by decide +kernel
theorem d_La_law_763 : decode b_La_law 763 = .ok (.iconst 2, 1) := by decide +kernel
theorem d_La_law_764 : decode b_La_law 764 = .ok (.iadd, 1) := by decide +kernel
theorem d_La_law_765 : decode b_La_law 765 = .ok (.iaload, 1) := by decide +kernel
theorem d_La_law_766 : decode b_La_law 766 = .ok (.invokevirtual 106, 3) := by decide +kernel
theorem d_La_law_769 : decode b_La_law 769 = .ok (.istore 6, 2) := by decide +kernel
theorem d_La_law_771 : decode b_La_law 771 = .ok (.aload_n 2, 1) := by decide +kernel
theorem d_La_law_772 : decode b_La_law 772 = .ok (.invokevirtual 67, 3) := by decide +kernel
theorem d_La_law_775 : decode b_La_law 775 = .ok (.iload 5, 2) := by decide +kernel
theorem d_La_law_777 : decode b_La_law 777 = .ok (.if_icmp .eq 5, 3) := by decide +kernel
theorem d_La_law_780 : decode b_La_law 780 = .ok (.iconst 0, 1) := by decide +kernel
theorem d_La_law_781 : decode b_La_law 781 = .ok (.ireturn, 1) := by decide +kernel
theorem d_La_law_782 : decode b_La_law 782 = .ok (.iload 5, 2) := by decide +kernel
theorem d_La_law_784 : decode b_La_law 784 = .ok (.ifCond .ne 15, 3) := by decide +kernel
theorem d_La_law_787 : decode b_La_law 787 = .ok (.aload_n 3, 1) := by decide +kernel
theorem d_La_law_788 : decode b_La_law 788 = .ok (.iconst 0, 1) := by decide +kernel
theorem d_La_law_789 : decode b_La_law 789 = .ok (.laload, 1) := by decide +kernel
theorem d_La_law_790 : decode b_La_law 790 = .ok (.iload 6, 2) := by decide +kernel
theorem d_La_law_792 : decode b_La_law 792 = .ok (.i2l, 1) := by decide +kernel
theorem d_La_law_793 : decode b_La_law 793 = .ok (.lcmp, 1) := by decide +kernel
theorem d_La_law_794 : decode b_La_law 794 = .ok (.ifCond .eq 5, 3) := by decide +kernel
theorem d_La_law_797 : decode b_La_law 797 = .ok (.iconst 0, 1) := by decide +kernel
theorem d_La_law_798 : decode b_La_law 798 = .ok (.ireturn, 1) := by decide +kernel
theorem d_La_law_799 : decode b_La_law 799 = .ok (.goto 342, 3) := by decide +kernel
theorem d_La_law_802 : decode b_La_law 802 = .ok (.aload_n 1, 1) := by decide +kernel
theorem d_La_law_803 : decode b_La_law 803 = .ok (.aload_n 0, 1) := by decide +kernel
theorem d_La_law_804 : decode b_La_law 804 = .ok (.iload 4, 2) := by decide +kernel
theorem d_La_law_806 : decode b_La_law 806 = .ok (.iconst 1, 1) := by decide +kernel
theorem d_La_law_807 : decode b_La_law 807 = .ok (.iadd, 1) := by decide +kernel
theorem d_La_law_808 : decode b_La_law 808 = .ok (.iaload, 1) := by decide +kernel
theorem d_La_law_809 : decode b_La_law 809 = .ok (.invokestatic 107, 3) := by decide +kernel
theorem d_La_law_812 : decode b_La_law 812 = .ok (.istore 5, 2) := by decide +kernel
theorem d_La_law_814 : decode b_La_law 814 = .ok (.aload_n 2, 1) := by decide +kernel
theorem d_La_law_815 : decode b_La_law 815 = .ok (.aload_n 0, 1) := by decide +kernel
theorem d_La_law_816 : decode b_La_law 816 = .ok (.iload 4, 2) := by decide +kernel
theorem d_La_law_818 : decode b_La_law 818 = .ok (.iconst 1, 1) := by decide +kernel
theorem d_La_law_819 : decode b_La_law 819 = .ok (.iadd, 1) := by decide +kernel
theorem d_La_law_820 : decode b_La_law 820 = .ok (.iaload, 1) := by decide +kernel
theorem d_La_law_821 : decode b_La_law 821 = .ok (.invokevirtual 110, 3) := by decide +kernel
theorem d_La_law_824 : decode b_La_law 824 = .ok (.aload_n 2, 1) := by decide +kernel
theorem d_La_law_825 : decode b_La_law 825 = .ok (.invokevirtual 67, 3) := by decide +kernel
theorem d_La_law_828 : decode b_La_law 828 = .ok (.iload 5, 2) := by decide +kernel
theorem d_La_law_830 : decode b_La_law 830 = .ok (.if_icmp .eq 5, 3) := by decide +kernel
theorem d_La_law_833 : decode b_La_law 833 = .ok (.iconst 0, 1) := by decide +kernel
theorem d_La_law_834 : decode b_La_law 834 = .ok (.ireturn, 1) := by decide +kernel
theorem d_La_law_835 : decode b_La_law 835 = .ok (.goto 306, 3) := by decide +kernel
theorem d_La_law_838 : decode b_La_law 838 = .ok (.aload_n 1, 1) := by decide +kernel
theorem d_La_law_839 : decode b_La_law 839 = .ok (.aload_n 0, 1) := by decide +kernel
theorem d_La_law_840 : decode b_La_law 840 = .ok (.iload 4, 2) := by decide +kernel
theorem d_La_law_842 : decode b_La_law 842 = .ok (.iconst 1, 1) := by decide +kernel
theorem d_La_law_843 : decode b_La_law 843 = .ok (.iadd, 1) := by decide +kernel
theorem d_La_law_844 : decode b_La_law 844 = .ok (.iaload, 1) := by decide +kernel
theorem d_La_law_845 : decode b_La_law 845 = .ok (.invokestatic 111, 3) := by decide +kernel
theorem d_La_law_848 : decode b_La_law 848 = .ok (.istore 5, 2) := by decide +kernel
theorem d_La_law_850 : decode b_La_law 850 = .ok (.aload_n 2, 1) := by decide +kernel
theorem d_La_law_851 : decode b_La_law 851 = .ok (.aload_n 0, 1) := by decide +kernel
theorem d_La_law_852 : decode b_La_law 852 = .ok (.iload 4, 2) := by decide +kernel
theorem d_La_law_854 : decode b_La_law 854 = .ok (.iconst 1, 1) := by decide +kernel
theorem d_La_law_855 : decode b_La_law 855 = .ok (.iadd, 1) := by decide +kernel
theorem d_La_law_856 : decode b_La_law 856 = .ok (.iaload, 1) := by decide +kernel
theorem d_La_law_857 : decode b_La_law 857 = .ok (.invokevirtual 113, 3) := by decide +kernel
theorem d_La_law_860 : decode b_La_law 860 = .ok (.aload_n 2, 1) := by decide +kernel
theorem d_La_law_861 : decode b_La_law 861 = .ok (.invokevirtual 67, 3) := by decide +kernel
theorem d_La_law_864 : decode b_La_law 864 = .ok (.iload 5, 2) := by decide +kernel
theorem d_La_law_866 : decode b_La_law 866 = .ok (.if_icmp .eq 5, 3) := by decide +kernel
theorem d_La_law_869 : decode b_La_law 869 = .ok (.iconst 0, 1) := by decide +kernel
theorem d_La_law_870 : decode b_La_law 870 = .ok (.ireturn, 1) := by decide +kernel
theorem d_La_law_871 : decode b_La_law 871 = .ok (.goto 270, 3) := by decide +kernel
theorem d_La_law_874 : decode b_La_law 874 = .ok (.aload_n 1, 1) := by decide +kernel
theorem d_La_law_875 : decode b_La_law 875 = .ok (.aload_n 0, 1) := by decide +kernel
theorem d_La_law_876 : decode b_La_law 876 = .ok (.iload 4, 2) := by decide +kernel
theorem d_La_law_878 : decode b_La_law 878 = .ok (.iconst 1, 1) := by decide +kernel
theorem d_La_law_879 : decode b_La_law 879 = .ok (.iadd, 1) := by decide +kernel
theorem d_La_law_880 : decode b_La_law 880 = .ok (.iaload, 1) := by decide +kernel
theorem d_La_law_881 : decode b_La_law 881 = .ok (.aload_n 3, 1) := by decide +kernel
theorem d_La_law_882 : decode b_La_law 882 = .ok (.invokestatic 114, 3) := by decide +kernel
theorem d_La_law_885 : decode b_La_law 885 = .ok (.istore 5, 2) := by decide +kernel
theorem d_La_law_887 : decode b_La_law 887 = .ok (.aload_n 2, 1) := by decide +kernel
theorem d_La_law_888 : decode b_La_law 888 = .ok (.aload_n 0, 1) := by decide +kernel
theorem d_La_law_889 : decode b_La_law 889 = .ok (.iload 4, 2) := by decide +kernel
theorem d_La_law_891 : decode b_La_law 891 = .ok (.iconst 1, 1) := by decide +kernel
theorem d_La_law_892 : decode b_La_law 892 = .ok (.iadd, 1) := by decide +kernel
theorem d_La_law_893 : decode b_La_law 893 = .ok (.iaload, 1) := by decide +kernel
theorem d_La_law_894 : decode b_La_law 894 = .ok (.invokevirtual 117, 3) := by decide +kernel
theorem d_La_law_897 : decode b_La_law 897 = .ok (.istore 6, 2) := by decide +kernel
theorem d_La_law_899 : decode b_La_law 899 = .ok (.aload_n 2, 1) := by decide +kernel
theorem d_La_law_900 : decode b_La_law 900 = .ok (.invokevirtual 67, 3) := by decide +kernel
theorem d_La_law_903 : decode b_La_law 903 = .ok (.iload 5, 2) := by decide +kernel
theorem d_La_law_905 : decode b_La_law 905 = .ok (.if_icmp .eq 5, 3) := by decide +kernel
theorem d_La_law_908 : decode b_La_law 908 = .ok (.iconst 0, 1) := by decide +kernel
theorem d_La_law_909 : decode b_La_law 909 = .ok (.ireturn, 1) := by decide +kernel
theorem d_La_law_910 : decode b_La_law 910 = .ok (.iload 5, 2) := by decide +kernel
theorem d_La_law_912 : decode b_La_law 912 = .ok (.ifCond .ne 15, 3) := by decide +kernel
theorem d_La_law_915 : decode b_La_law 915 = .ok (.aload_n 3, 1) := by decide +kernel
theorem d_La_law_916 : decode b_La_law 916 = .ok (.iconst 0, 1) := by decide +kernel
theorem d_La_law_917 : decode b_La_law 917 = .ok (.laload, 1) := by decide +kernel
theorem d_La_law_918 : decode b_La_law 918 = .ok (.iload 6, 2) := by decide +kernel
theorem d_La_law_920 : decode b_La_law 920 = .ok (.i2l, 1) := by decide +kernel
theorem d_La_law_921 : decode b_La_law 921 = .ok (.lcmp, 1) := by decide +kernel
theorem d_La_law_922 : decode b_La_law 922 = .ok (.ifCond .eq 5, 3) := by decide +kernel
theorem d_La_law_925 : decode b_La_law 925 = .ok (.iconst 0, 1) := by decide +kernel
theorem d_La_law_926 : decode b_La_law 926 = .ok (.ireturn, 1) := by decide +kernel
theorem d_La_law_927 : decode b_La_law 927 = .ok (.goto 214, 3) := by decide +kernel
theorem d_La_law_930 : decode b_La_law 930 = .ok (.aload_n 1, 1) := by decide +kernel
theorem d_La_law_931 : decode b_La_law 931 = .ok (.invokevirtual 118, 3) := by decide +kernel
theorem d_La_law_934 : decode b_La_law 934 = .ok (.aload_n 2, 1) := by decide +kernel
theorem d_La_law_935 : decode b_La_law 935 = .ok (.invokevirtual 121, 3) := by decide +kernel
theorem d_La_law_938 : decode b_La_law 938 = .ok (.if_icmp .eq 203, 3) := by decide +kernel
theorem d_La_law_941 : decode b_La_law 941 = .ok (.iconst 0, 1) := by decide +kernel
theorem d_La_law_942 : decode b_La_law 942 = .ok (.ireturn, 1) := by decide +kernel
theorem d_La_law_943 : decode b_La_law 943 = .ok (.aload_n 1, 1) := by decide +kernel
theorem d_La_law_944 : decode b_La_law 944 = .ok (.invokevirtual 122, 3) := by decide +kernel
theorem d_La_law_947 : decode b_La_law 947 = .ok (.aload_n 2, 1) := by decide +kernel
theorem d_La_law_948 : decode b_La_law 948 = .ok (.invokevirtual 125, 3) := by decide +kernel
theorem d_La_law_951 : decode b_La_law 951 = .ok (.if_icmp .eq 190, 3) := by decide +kernel
theorem d_La_law_954 : decode b_La_law 954 = .ok (.iconst 0, 1) := by decide +kernel
theorem d_La_law_955 : decode b_La_law 955 = .ok (.ireturn, 1) := by decide +kernel
theorem d_La_law_956 : decode b_La_law 956 = .ok (.aload_n 1, 1) := by decide +kernel
theorem d_La_law_957 : decode b_La_law 957 = .ok (.aload_n 0, 1) := by decide +kernel
theorem d_La_law_958 : decode b_La_law 958 = .ok (.iload 4, 2) := by decide +kernel
theorem d_La_law_960 : decode b_La_law 960 = .ok (.iconst 1, 1) := by decide +kernel
theorem d_La_law_961 : decode b_La_law 961 = .ok (.iadd, 1) := by decide +kernel
theorem d_La_law_962 : decode b_La_law 962 = .ok (.iaload, 1) := by decide +kernel
theorem d_La_law_963 : decode b_La_law 963 = .ok (.invokevirtual 126, 3) := by decide +kernel
theorem d_La_law_966 : decode b_La_law 966 = .ok (.aload_n 2, 1) := by decide +kernel
theorem d_La_law_967 : decode b_La_law 967 = .ok (.aload_n 0, 1) := by decide +kernel
theorem d_La_law_968 : decode b_La_law 968 = .ok (.iload 4, 2) := by decide +kernel
theorem d_La_law_970 : decode b_La_law 970 = .ok (.iconst 1, 1) := by decide +kernel
theorem d_La_law_971 : decode b_La_law 971 = .ok (.iadd, 1) := by decide +kernel
theorem d_La_law_972 : decode b_La_law 972 = .ok (.iaload, 1) := by decide +kernel
theorem d_La_law_973 : decode b_La_law 973 = .ok (.invokevirtual 129, 3) := by decide +kernel
theorem d_La_law_976 : decode b_La_law 976 = .ok (.lcmp, 1) := by decide +kernel
theorem d_La_law_977 : decode b_La_law 977 = .ok (.ifCond .eq 164, 3) := by decide +kernel
theorem d_La_law_980 : decode b_La_law 980 = .ok (.iconst 0, 1) := by decide +kernel
theorem d_La_law_981 : decode b_La_law 981 = .ok (.ireturn, 1) := by decide +kernel
theorem d_La_law_982 : decode b_La_law 982 = .ok (.aload_n 1, 1) := by decide +kernel
theorem d_La_law_983 : decode b_La_law 983 = .ok (.aload_n 0, 1) := by decide +kernel
theorem d_La_law_984 : decode b_La_law 984 = .ok (.iload 4, 2) := by decide +kernel
theorem d_La_law_986 : decode b_La_law 986 = .ok (.iconst 1, 1) := by decide +kernel
theorem d_La_law_987 : decode b_La_law 987 = .ok (.iadd, 1) := by decide +kernel
theorem d_La_law_988 : decode b_La_law 988 = .ok (.iaload, 1) := by decide +kernel
theorem d_La_law_989 : decode b_La_law 989 = .ok (.aload_n 0, 1) := by decide +kernel
theorem d_La_law_990 : decode b_La_law 990 = .ok (.iload 4, 2) := by decide +kernel
theorem d_La_law_992 : decode b_La_law 992 = .ok (.iconst 2, 1) := by decide +kernel
theorem d_La_law_993 : decode b_La_law 993 = .ok (.iadd, 1) := by decide +kernel
theorem d_La_law_994 : decode b_La_law 994 = .ok (.iaload, 1) := by decide +kernel
theorem d_La_law_995 : decode b_La_law 995 = .ok (.aload_n 3, 1) := by decide +kernel
theorem d_La_law_996 : decode b_La_law 996 = .ok (.invokestatic 130, 3) := by decide +kernel
theorem d_La_law_999 : decode b_La_law 999 = .ok (.istore 5, 2) := by decide +kernel
theorem d_La_law_1001 : decode b_La_law 1001 = .ok (.aload_n 2, 1) := by decide +kernel
theorem d_La_law_1002 : decode b_La_law 1002 = .ok (.aload_n 0, 1) := by decide +kernel
theorem d_La_law_1003 : decode b_La_law 1003 = .ok (.iload 4, 2) := by decide +kernel
theorem d_La_law_1005 : decode b_La_law 1005 = .ok (.iconst 1, 1) := by decide +kernel
theorem d_La_law_1006 : decode b_La_law 1006 = .ok (.iadd, 1) := by decide +kernel
theorem d_La_law_1007 : decode b_La_law 1007 = .ok (.iaload, 1) := by decide +kernel
theorem d_La_law_1008 : decode b_La_law 1008 = .ok (.aload_n 0, 1) := by decide +kernel
theorem d_La_law_1009 : decode b_La_law 1009 = .ok (.iload 4, 2) := by decide +kernel
theorem d_La_law_1011 : decode b_La_law 1011 = .ok (.iconst 2, 1) := by decide +kernel
theorem d_La_law_1012 : decode b_La_law 1012 = .ok (.iadd, 1) := by decide +kernel
theorem d_La_law_1013 : decode b_La_law 1013 = .ok (.iaload, 1) := by decide +kernel
theorem d_La_law_1014 : decode b_La_law 1014 = .ok (.invokevirtual 132, 3) := by decide +kernel
theorem d_La_law_1017 : decode b_La_law 1017 = .ok (.lstore 6, 2) := by decide +kernel
theorem d_La_law_1019 : decode b_La_law 1019 = .ok (.aload_n 2, 1) := by decide +kernel
theorem d_La_law_1020 : decode b_La_law 1020 = .ok (.invokevirtual 67, 3) := by decide +kernel
theorem d_La_law_1023 : decode b_La_law 1023 = .ok (.iload 5, 2) := by decide +kernel
theorem d_La_law_1025 : decode b_La_law 1025 = .ok (.if_icmp .eq 5, 3) := by decide +kernel
theorem d_La_law_1028 : decode b_La_law 1028 = .ok (.iconst 0, 1) := by decide +kernel
theorem d_La_law_1029 : decode b_La_law 1029 = .ok (.ireturn, 1) := by decide +kernel
theorem d_La_law_1030 : decode b_La_law 1030 = .ok (.iload 5, 2) := by decide +kernel
theorem d_La_law_1032 : decode b_La_law 1032 = .ok (.ifCond .ne 14, 3) := by decide +kernel
theorem d_La_law_1035 : decode b_La_law 1035 = .ok (.aload_n 3, 1) := by decide +kernel
theorem d_La_law_1036 : decode b_La_law 1036 = .ok (.iconst 0, 1) := by decide +kernel
theorem d_La_law_1037 : decode b_La_law 1037 = .ok (.laload, 1) := by decide +kernel
theorem d_La_law_1038 : decode b_La_law 1038 = .ok (.lload 6, 2) := by decide +kernel
theorem d_La_law_1040 : decode b_La_law 1040 = .ok (.lcmp, 1) := by decide +kernel
theorem d_La_law_1041 : decode b_La_law 1041 = .ok (.ifCond .eq 5, 3) := by decide +kernel
theorem d_La_law_1044 : decode b_La_law 1044 = .ok (.iconst 0, 1) := by decide +kernel
theorem d_La_law_1045 : decode b_La_law 1045 = .ok (.ireturn, 1) := by decide +kernel
theorem d_La_law_1046 : decode b_La_law 1046 = .ok (.goto 95, 3) := by decide +kernel
theorem d_La_law_1049 : decode b_La_law 1049 = .ok (.aload_n 1, 1) := by decide +kernel
theorem d_La_law_1050 : decode b_La_law 1050 = .ok (.aload_n 0, 1) := by decide +kernel
theorem d_La_law_1051 : decode b_La_law 1051 = .ok (.iload 4, 2) := by decide +kernel
theorem d_La_law_1053 : decode b_La_law 1053 = .ok (.iconst 1, 1) := by decide +kernel
theorem d_La_law_1054 : decode b_La_law 1054 = .ok (.iadd, 1) := by decide +kernel
theorem d_La_law_1055 : decode b_La_law 1055 = .ok (.iaload, 1) := by decide +kernel
theorem d_La_law_1056 : decode b_La_law 1056 = .ok (.aload_n 0, 1) := by decide +kernel
theorem d_La_law_1057 : decode b_La_law 1057 = .ok (.iload 4, 2) := by decide +kernel
theorem d_La_law_1059 : decode b_La_law 1059 = .ok (.iconst 2, 1) := by decide +kernel
theorem d_La_law_1060 : decode b_La_law 1060 = .ok (.iadd, 1) := by decide +kernel
theorem d_La_law_1061 : decode b_La_law 1061 = .ok (.iaload, 1) := by decide +kernel
theorem d_La_law_1062 : decode b_La_law 1062 = .ok (.aload_n 3, 1) := by decide +kernel
theorem d_La_law_1063 : decode b_La_law 1063 = .ok (.invokestatic 133, 3) := by decide +kernel
theorem d_La_law_1066 : decode b_La_law 1066 = .ok (.istore 5, 2) := by decide +kernel
theorem d_La_law_1068 : decode b_La_law 1068 = .ok (.aload_n 2, 1) := by decide +kernel
theorem d_La_law_1069 : decode b_La_law 1069 = .ok (.aload_n 0, 1) := by decide +kernel
theorem d_La_law_1070 : decode b_La_law 1070 = .ok (.iload 4, 2) := by decide +kernel
theorem d_La_law_1072 : decode b_La_law 1072 = .ok (.iconst 1, 1) := by decide +kernel
theorem d_La_law_1073 : decode b_La_law 1073 = .ok (.iadd, 1) := by decide +kernel
theorem d_La_law_1074 : decode b_La_law 1074 = .ok (.iaload, 1) := by decide +kernel
theorem d_La_law_1075 : decode b_La_law 1075 = .ok (.aload_n 0, 1) := by decide +kernel
theorem d_La_law_1076 : decode b_La_law 1076 = .ok (.iload 4, 2) := by decide +kernel
theorem d_La_law_1078 : decode b_La_law 1078 = .ok (.iconst 2, 1) := by decide +kernel
theorem d_La_law_1079 : decode b_La_law 1079 = .ok (.iadd, 1) := by decide +kernel
theorem d_La_law_1080 : decode b_La_law 1080 = .ok (.iaload, 1) := by decide +kernel
theorem d_La_law_1081 : decode b_La_law 1081 = .ok (.invokevirtual 135, 3) := by decide +kernel
theorem d_La_law_1084 : decode b_La_law 1084 = .ok (.lstore 6, 2) := by decide +kernel
theorem d_La_law_1086 : decode b_La_law 1086 = .ok (.aload_n 2, 1) := by decide +kernel
theorem d_La_law_1087 : decode b_La_law 1087 = .ok (.invokevirtual 67, 3) := by decide +kernel
theorem d_La_law_1090 : decode b_La_law 1090 = .ok (.iload 5, 2) := by decide +kernel
theorem d_La_law_1092 : decode b_La_law 1092 = .ok (.if_icmp .eq 5, 3) := by decide +kernel
theorem d_La_law_1095 : decode b_La_law 1095 = .ok (.iconst 0, 1) := by decide +kernel
theorem d_La_law_1096 : decode b_La_law 1096 = .ok (.ireturn, 1) := by decide +kernel
theorem d_La_law_1097 : decode b_La_law 1097 = .ok (.iload 5, 2) := by decide +kernel
theorem d_La_law_1099 : decode b_La_law 1099 = .ok (.ifCond .ne 14, 3) := by decide +kernel
theorem d_La_law_1102 : decode b_La_law 1102 = .ok (.aload_n 3, 1) := by decide +kernel
theorem d_La_law_1103 : decode b_La_law 1103 = .ok (.iconst 0, 1) := by decide +kernel
theorem d_La_law_1104 : decode b_La_law 1104 = .ok (.laload, 1) := by decide +kernel
theorem d_La_law_1105 : decode b_La_law 1105 = .ok (.lload 6, 2) := by decide +kernel
theorem d_La_law_1107 : decode b_La_law 1107 = .ok (.lcmp, 1) := by decide +kernel
theorem d_La_law_1108 : decode b_La_law 1108 = .ok (.ifCond .eq 5, 3) := by decide +kernel
theorem d_La_law_1111 : decode b_La_law 1111 = .ok (.iconst 0, 1) := by decide +kernel
theorem d_La_law_1112 : decode b_La_law 1112 = .ok (.ireturn, 1) := by decide +kernel
theorem d_La_law_1113 : decode b_La_law 1113 = .ok (.goto 28, 3) := by decide +kernel
theorem d_La_law_1116 : decode b_La_law 1116 = .ok (.aload_n 1, 1) := by decide +kernel
theorem d_La_law_1117 : decode b_La_law 1117 = .ok (.aload_n 0, 1) := by decide +kernel
theorem d_La_law_1118 : decode b_La_law 1118 = .ok (.iload 4, 2) := by decide +kernel
theorem d_La_law_1120 : decode b_La_law 1120 = .ok (.iconst 1, 1) := by decide +kernel
theorem d_La_law_1121 : decode b_La_law 1121 = .ok (.iadd, 1) := by decide +kernel
theorem d_La_law_1122 : decode b_La_law 1122 = .ok (.iaload, 1) := by decide +kernel
theorem d_La_law_1123 : decode b_La_law 1123 = .ok (.invokevirtual 136, 3) := by decide +kernel
theorem d_La_law_1126 : decode b_La_law 1126 = .ok (.aload_n 2, 1) := by decide +kernel
theorem d_La_law_1127 : decode b_La_law 1127 = .ok (.aload_n 0, 1) := by decide +kernel
theorem d_La_law_1128 : decode b_La_law 1128 = .ok (.iload 4, 2) := by decide +kernel
theorem d_La_law_1130 : decode b_La_law 1130 = .ok (.iconst 1, 1) := by decide +kernel
theorem d_La_law_1131 : decode b_La_law 1131 = .ok (.iadd, 1) := by decide +kernel
theorem d_La_law_1132 : decode b_La_law 1132 = .ok (.iaload, 1) := by decide +kernel
theorem d_La_law_1133 : decode b_La_law 1133 = .ok (.invokevirtual 139, 3) := by decide +kernel
theorem d_La_law_1136 : decode b_La_law 1136 = .ok (.if_icmp .eq 5, 3) := by decide +kernel
theorem d_La_law_1139 : decode b_La_law 1139 = .ok (.iconst 0, 1) := by decide +kernel
theorem d_La_law_1140 : decode b_La_law 1140 = .ok (.ireturn, 1) := by decide +kernel
theorem d_La_law_1141 : decode b_La_law 1141 = .ok (.iinc 4 9, 3) := by decide +kernel
theorem d_La_law_1144 : decode b_La_law 1144 = .ok (.goto (-1121), 3) := by decide +kernel
theorem d_La_law_1147 : decode b_La_law 1147 = .ok (.iconst 1, 1) := by decide +kernel
theorem d_La_law_1148 : decode b_La_law 1148 = .ok (.ireturn, 1) := by decide +kernel
