theorem d_La_law_722 : decode b_La_law 722 = .ok (.invokevirtual 113, 3) := by decide +kernel
theorem d_La_law_725 : decode b_La_law 725 = .ok (.goto 187, 3) := by decide +kernel
theorem d_La_law_728 : decode b_La_law 728 = .ok (.aload_n 1, 1) := by decide +kernel
theorem d_La_law_729 : decode b_La_law 729 = .ok (.aload_n 0, 1) := by decide +kernel
theorem d_La_law_730 : decode b_La_law 730 = .ok (.iload 4, 2) := by decide +kernel
theorem d_La_law_732 : decode b_La_law 732 = .ok (.iconst 1, 1) := by decide +kernel
theorem d_La_law_733 : decode b_La_law 733 = .ok (.iadd, 1) := by decide +kernel
theorem d_La_law_734 : decode b_La_law 734 = .ok (.iaload, 1) := by decide +kernel
theorem d_La_law_735 : decode b_La_law 735 = .ok (.aload_n 3, 1) := by decide +kernel
theorem d_La_law_736 : decode b_La_law 736 = .ok (.invokestatic 114, 3) := by decide +kernel
theorem d_La_law_739 : decode b_La_law 739 = .ok (.istore 5, 2) := by decide +kernel
theorem d_La_law_741 : decode b_La_law 741 = .ok (.aload_n 2, 1) := by decide +kernel
theorem d_La_law_742 : decode b_La_law 742 = .ok (.aload_n 0, 1) := by decide +kernel
theorem d_La_law_743 : decode b_La_law 743 = .ok (.iload 4, 2) := by decide +kernel
theorem d_La_law_745 : decode b_La_law 745 = .ok (.iconst 1, 1) := by decide +kernel
theorem d_La_law_746 : decode b_La_law 746 = .ok (.iadd, 1) := by decide +kernel
theorem d_La_law_747 : decode b_La_law 747 = .ok (.iaload, 1) := by decide +kernel
theorem d_La_law_748 : decode b_La_law 748 = .ok (.invokevirtual 117, 3) := by decide +kernel
theorem d_La_law_751 : decode b_La_law 751 = .ok (.istore 6, 2) := by decide +kernel
theorem d_La_law_753 : decode b_La_law 753 = .ok (.goto 159, 3) := by decide +kernel
theorem d_La_law_756 : decode b_La_law 756 = .ok (.aload_n 1, 1) := by decide +kernel
theorem d_La_law_757 : decode b_La_law 757 = .ok (.invokevirtual 118, 3) := by decide +kernel
theorem d_La_law_760 : decode b_La_law 760 = .ok (.pop, 1) := by decide +kernel
theorem d_La_law_761 : decode b_La_law 761 = .ok (.aload_n 2, 1) := by decide +kernel
theorem d_La_law_762 : decode b_La_law 762 = .ok (.invokevirtual 121, 3) := by decide +kernel
theorem d_La_law_765 : decode b_La_law 765 = .ok (.pop, 1) := by decide +kernel
theorem d_La_law_766 : decode b_La_law 766 = .ok (.goto 146, 3) := by decide +kernel
theorem d_La_law_769 : decode b_La_law 769 = .ok (.aload_n 1, 1) := by decide +kernel
theorem d_La_law_770 : decode b_La_law 770 = .ok (.invokevirtual 122, 3) := by decide +kernel
theorem d_La_law_773 : decode b_La_law 773 = .ok (.pop, 1) := by decide +kernel
theorem d_La_law_774 : decode b_La_law 774 = .ok (.aload_n 2, 1) := by decide +kernel
theorem d_La_law_775 : decode b_La_law 775 = .ok (.invokevirtual 125, 3) := by decide +kernel
theorem d_La_law_778 : decode b_La_law 778 = .ok (.pop, 1) := by decide +kernel
theorem d_La_law_779 : decode b_La_law 779 = .ok (.goto 133, 3) := by decide +kernel
theorem d_La_law_782 : decode b_La_law 782 = .ok (.aload_n 1, 1) := by decide +kernel
theorem d_La_law_783 : decode b_La_law 783 = .ok (.aload_n 0, 1) := by decide +kernel
theorem d_La_law_784 : decode b_La_law 784 = .ok (.iload 4, 2) := by decide +kernel
theorem d_La_law_786 : decode b_La_law 786 = .ok (.iconst 1, 1) := by decide +kernel
theorem d_La_law_787 : decode b_La_law 787 = .ok (.iadd, 1) := by decide +kernel
theorem d_La_law_788 : decode b_La_law 788 = .ok (.iaload, 1) := by decide +kernel
theorem d_La_law_789 : decode b_La_law 789 = .ok (.invokevirtual 126, 3) := by decide +kernel
theorem d_La_law_792 : decode b_La_law 792 = .ok (.pop2, 1) := by decide +kernel
theorem d_La_law_793 : decode b_La_law 793 = .ok (.aload_n 2, 1) := by decide +kernel
theorem d_La_law_794 : decode b_La_law 794 = .ok (.aload_n 0, 1) := by decide +kernel
theorem d_La_law_795 : decode b_La_law 795 = .ok (.iload 4, 2) := by decide +kernel
theorem d_La_law_797 : decode b_La_law 797 = .ok (.iconst 1, 1) := by decide +kernel
theorem d_La_law_798 : decode b_La_law 798 = .ok (.iadd, 1) := by decide +kernel
theorem d_La_law_799 : decode b_La_law 799 = .ok (.iaload, 1) := by decide +kernel
theorem d_La_law_800 : decode b_La_law 800 = .ok (.invokevirtual 129, 3) := by decide +kernel
theorem d_La_law_803 : decode b_La_law 803 = .ok (.pop2, 1) := by decide +kernel
theorem d_La_law_804 : decode b_La_law 804 = .ok (.goto 108, 3) := by decide +kernel
theorem d_La_law_807 : decode b_La_law 807 = .ok (.aload_n 1, 1) := by decide +kernel
theorem d_La_law_808 : decode b_La_law 808 = .ok (.aload_n 0, 1) := by decide +kernel
theorem d_La_law_809 : decode b_La_law 809 = .ok (.iload 4, 2) := by decide +kernel
theorem d_La_law_811 : decode b_La_law 811 = .ok (.iconst 1, 1) := by decide +kernel
theorem d_La_law_812 : decode b_La_law 812 = .ok (.iadd, 1) := by decide +kernel
theorem d_La_law_813 : decode b_La_law 813 = .ok (.iaload, 1) := by decide +kernel
theorem d_La_law_814 : decode b_La_law 814 = .ok (.aload_n 0, 1) := by decide +kernel
theorem d_La_law_815 : decode b_La_law 815 = .ok (.iload 4, 2) := by decide +kernel
theorem d_La_law_817 : decode b_La_law 817 = .ok (.iconst 2, 1) := by decide +kernel
theorem d_La_law_818 : decode b_La_law 818 = .ok (.iadd, 1) := by decide +kernel
theorem d_La_law_819 : decode b_La_law 819 = .ok (.iaload, 1) := by decide +kernel
theorem d_La_law_820 : decode b_La_law 820 = .ok (.aload_n 3, 1) := by decide +kernel
theorem d_La_law_821 : decode b_La_law 821 = .ok (.invokestatic 130, 3) := by decide +kernel
theorem d_La_law_824 : decode b_La_law 824 = .ok (.istore 5, 2) := by decide +kernel
theorem d_La_law_826 : decode b_La_law 826 = .ok (.aload_n 2, 1) := by decide +kernel
theorem d_La_law_827 : decode b_La_law 827 = .ok (.aload_n 0, 1) := by decide +kernel
theorem d_La_law_828 : decode b_La_law 828 = .ok (.iload 4, 2) := by decide +kernel
theorem d_La_law_830 : decode b_La_law 830 = .ok (.iconst 1, 1) := by decide +kernel
theorem d_La_law_831 : decode b_La_law 831 = .ok (.iadd, 1) := by decide +kernel
theorem d_La_law_832 : decode b_La_law 832 = .ok (.iaload, 1) := by decide +kernel
theorem d_La_law_833 : decode b_La_law 833 = .ok (.aload_n 0, 1) := by decide +kernel
theorem d_La_law_834 : decode b_La_law 834 = .ok (.iload 4, 2) := by decide +kernel
theorem d_La_law_836 : decode b_La_law 836 = .ok (.iconst 2, 1) := by decide +kernel
theorem d_La_law_837 : decode b_La_law 837 = .ok (.iadd, 1) := by decide +kernel
theorem d_La_law_838 : decode b_La_law 838 = .ok (.iaload, 1) := by decide +kernel
theorem d_La_law_839 : decode b_La_law 839 = .ok (.invokevirtual 132, 3) := by decide +kernel
theorem d_La_law_842 : decode b_La_law 842 = .ok (.lstore 6, 2) := by decide +kernel
theorem d_La_law_844 : decode b_La_law 844 = .ok (.goto 68, 3) := by decide +kernel
theorem d_La_law_847 : decode b_La_law 847 = .ok (.aload_n 1, 1) := by decide +kernel
theorem d_La_law_848 : decode b_La_law 848 = .ok (.aload_n 0, 1) := by decide +kernel
theorem d_La_law_849 : decode b_La_law 849 = .ok (.iload 4, 2) := by decide +kernel
theorem d_La_law_851 : decode b_La_law 851 = .ok (.iconst 1, 1) := by decide +kernel
theorem d_La_law_852 : decode b_La_law 852 = .ok (.iadd, 1) := by decide +kernel
theorem d_La_law_853 : decode b_La_law 853 = .ok (.iaload, 1) := by decide +kernel
theorem d_La_law_854 : decode b_La_law 854 = .ok (.aload_n 0, 1) := by decide +kernel
theorem d_La_law_855 : decode b_La_law 855 = .ok (.iload 4, 2) := by decide +kernel
theorem d_La_law_857 : decode b_La_law 857 = .ok (.iconst 2, 1) := by decide +kernel
theorem d_La_law_858 : decode b_La_law 858 = .ok (.iadd, 1) := by decide +kernel
theorem d_La_law_859 : decode b_La_law 859 = .ok (.iaload, 1) := by decide +kernel
theorem d_La_law_860 : decode b_La_law 860 = .ok (.aload_n 3, 1) := by decide +kernel
theorem d_La_law_861 : decode b_La_law 861 = .ok (.invokestatic 133, 3) := by decide +kernel
theorem d_La_law_864 : decode b_La_law 864 = .ok (.istore 5, 2) := by decide +kernel
theorem d_La_law_866 : decode b_La_law 866 = .ok (.aload_n 2, 1) := by decide +kernel
theorem d_La_law_867 : decode b_La_law 867 = .ok (.aload_n 0, 1) := by decide +kernel
theorem d_La_law_868 : decode b_La_law 868 = .ok (.iload 4, 2) := by decide +kernel
theorem d_La_law_870 : decode b_La_law 870 = .ok (.iconst 1, 1) := by decide +kernel
theorem d_La_law_871 : decode b_La_law 871 = .ok (.iadd, 1) := by decide +kernel
theorem d_La_law_872 : decode b_La_law 872 = .ok (.iaload, 1) := by decide +kernel
theorem d_La_law_873 : decode b_La_law 873 = .ok (.aload_n 0, 1) := by decide +kernel
theorem d_La_law_874 : decode b_La_law 874 = .ok (.iload 4, 2) := by decide +kernel
theorem d_La_law_876 : decode b_La_law 876 = .ok (.iconst 2, 1) := by decide +kernel
theorem d_La_law_877 : decode b_La_law 877 = .ok (.iadd, 1) := by decide +kernel
theorem d_La_law_878 : decode b_La_law 878 = .ok (.iaload, 1) := by decide +kernel
theorem d_La_law_879 : decode b_La_law 879 = .ok (.invokevirtual 135, 3) := by decide +kernel
theorem d_La_law_882 : decode b_La_law 882 = .ok (.lstore 6, 2) := by decide +kernel
theorem d_La_law_884 : decode b_La_law 884 = .ok (.goto 28, 3) := by decide +kernel
theorem d_La_law_887 : decode b_La_law 887 = .ok (.aload_n 1, 1) := by decide +kernel
theorem d_La_law_888 : decode b_La_law 888 = .ok (.aload_n 0, 1) := by decide +kernel
theorem d_La_law_889 : decode b_La_law 889 = .ok (.iload 4, 2) := by decide +kernel
theorem d_La_law_891 : decode b_La_law 891 = .ok (.iconst 1, 1) := by decide +kernel
theorem d_La_law_892 : decode b_La_law 892 = .ok (.iadd, 1) := by decide +kernel
theorem d_La_law_893 : decode b_La_law 893 = .ok (.iaload, 1) := by decide +kernel
theorem d_La_law_894 : decode b_La_law 894 = .ok (.invokevirtual 136, 3) := by decide +kernel
theorem d_La_law_897 : decode b_La_law 897 = .ok (.pop, 1) := by decide +kernel
theorem d_La_law_898 : decode b_La_law 898 = .ok (.aload_n 2, 1) := by decide +kernel
theorem d_La_law_899 : decode b_La_law 899 = .ok (.aload_n 0, 1) := by decide +kernel
theorem d_La_law_900 : decode b_La_law 900 = .ok (.iload 4, 2) := by decide +kernel
theorem d_La_law_902 : decode b_La_law 902 = .ok (.iconst 1, 1) := by decide +kernel
theorem d_La_law_903 : decode b_La_law 903 = .ok (.iadd, 1) := by decide +kernel
theorem d_La_law_904 : decode b_La_law 904 = .ok (.iaload, 1) := by decide +kernel
theorem d_La_law_905 : decode b_La_law 905 = .ok (.invokevirtual 139, 3) := by decide +kernel
theorem d_La_law_908 : decode b_La_law 908 = .ok (.pop, 1) := by decide +kernel
theorem d_La_law_909 : decode b_La_law 909 = .ok (.goto 3, 3) := by decide +kernel
theorem d_La_law_912 : decode b_La_law 912 = .ok (.iinc 4 9, 3) := by decide +kernel
theorem d_La_law_915 : decode b_La_law 915 = .ok (.goto (-892), 3) := by decide +kernel
theorem d_La_law_918 : decode b_La_law 918 = .ok (.iconst 1, 1) := by decide +kernel
theorem d_La_law_919 : decode b_La_law 919 = .ok (.ireturn, 1) := by decide +kernel
