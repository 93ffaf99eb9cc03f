theorem d_La_law_722 : decode b_La_law 722 = .ok (.aload_n 0, 1) := by decide +kernel
theorem d_La_law_723 : decode b_La_law 723 = .ok (.iload 4, 2) := by decide +kernel
theorem d_La_law_725 : decode b_La_law 725 = .ok (.iconst 1, 1) := by decide +kernel
theorem d_La_law_726 : decode b_La_law 726 = .ok (.iadd, 1) := by decide +kernel
theorem d_La_law_727 : decode b_La_law 727 = .ok (.iaload, 1) := by decide +kernel
theorem d_La_law_728 : decode b_La_law 728 = .ok (.aload_n 3, 1) := by decide +kernel
theorem d_La_law_729 : decode b_La_law 729 = .ok (.invokestatic 114, 3) := by decide +kernel
theorem d_La_law_732 : decode b_La_law 732 = .ok (.istore 5, 2) := by decide +kernel
theorem d_La_law_734 : decode b_La_law 734 = .ok (.aload_n 2, 1) := by decide +kernel
theorem d_La_law_735 : decode b_La_law 735 = .ok (.aload_n 0, 1) := by decide +kernel
theorem d_La_law_736 : decode b_La_law 736 = .ok (.iload 4, 2) := by decide +kernel
theorem d_La_law_738 : decode b_La_law 738 = .ok (.iconst 1, 1) := by decide +kernel
theorem d_La_law_739 : decode b_La_law 739 = .ok (.iadd, 1) := by decide +kernel
theorem d_La_law_740 : decode b_La_law 740 = .ok (.iaload, 1) := by decide +kernel
theorem d_La_law_741 : decode b_La_law 741 = .ok (.invokevirtual 117, 3) := by decide +kernel
theorem d_La_law_744 : decode b_La_law 744 = .ok (.istore 6, 2) := by decide +kernel
theorem d_La_law_746 : decode b_La_law 746 = .ok (.goto 159, 3) := by decide +kernel
theorem d_La_law_749 : decode b_La_law 749 = .ok (.aload_n 1, 1) := by decide +kernel
theorem d_La_law_750 : decode b_La_law 750 = .ok (.invokevirtual 118, 3) := by decide +kernel
theorem d_La_law_753 : decode b_La_law 753 = .ok (.pop, 1) := by decide +kernel
theorem d_La_law_754 : decode b_La_law 754 = .ok (.aload_n 2, 1) := by decide +kernel
theorem d_La_law_755 : decode b_La_law 755 = .ok (.invokevirtual 121, 3) := by decide +kernel
theorem d_La_law_758 : decode b_La_law 758 = .ok (.pop, 1) := by decide +kernel
theorem d_La_law_759 : decode b_La_law 759 = .ok (.goto 146, 3) := by decide +kernel
theorem d_La_law_762 : decode b_La_law 762 = .ok (.aload_n 1, 1) := by decide +kernel
theorem d_La_law_763 : decode b_La_law 763 = .ok (.invokevirtual 122, 3) := by decide +kernel
theorem d_La_law_766 : decode b_La_law 766 = .ok (.pop, 1) := by decide +kernel
theorem d_La_law_767 : decode b_La_law 767 = .ok (.aload_n 2, 1) := by decide +kernel
theorem d_La_law_768 : decode b_La_law 768 = .ok (.invokevirtual 125, 3) := by decide +kernel
theorem d_La_law_771 : decode b_La_law 771 = .ok (.pop, 1) := by decide +kernel
theorem d_La_law_772 : decode b_La_law 772 = .ok (.goto 133, 3) := by decide +kernel
theorem d_La_law_775 : decode b_La_law 775 = .ok (.aload_n 1, 1) := by decide +kernel
theorem d_La_law_776 : decode b_La_law 776 = .ok (.aload_n 0, 1) := by decide +kernel
theorem d_La_law_777 : decode b_La_law 777 = .ok (.iload 4, 2) := by decide +kernel
theorem d_La_law_779 : decode b_La_law 779 = .ok (.iconst 1, 1) := by decide +kernel
theorem d_La_law_780 : decode b_La_law 780 = .ok (.iadd, 1) := by decide +kernel
theorem d_La_law_781 : decode b_La_law 781 = .ok (.iaload, 1) := by decide +kernel
theorem d_La_law_782 : decode b_La_law 782 = .ok (.invokevirtual 126, 3) := by decide +kernel
theorem d_La_law_785 : decode b_La_law 785 = .ok (.pop2, 1) := by decide +kernel
theorem d_La_law_786 : decode b_La_law 786 = .ok (.aload_n 2, 1) := by decide +kernel
theorem d_La_law_787 : decode b_La_law 787 = .ok (.aload_n 0, 1) := by decide +kernel
theorem d_La_law_788 : decode b_La_law 788 = .ok (.iload 4, 2) := by decide +kernel
theorem d_La_law_790 : decode b_La_law 790 = .ok (.iconst 1, 1) := by decide +kernel
theorem d_La_law_791 : decode b_La_law 791 = .ok (.iadd, 1) := by decide +kernel
theorem d_La_law_792 : decode b_La_law 792 = .ok (.iaload, 1) := by decide +kernel
theorem d_La_law_793 : decode b_La_law 793 = .ok (.invokevirtual 129, 3) := by decide +kernel
theorem d_La_law_796 : decode b_La_law 796 = .ok (.pop2, 1) := by decide +kernel
theorem d_La_law_797 : decode b_La_law 797 = .ok (.goto 108, 3) := by decide +kernel
theorem d_La_law_800 : decode b_La_law 800 = .ok (.aload_n 1, 1) := by decide +kernel
theorem d_La_law_801 : decode b_La_law 801 = .ok (.aload_n 0, 1) := by decide +kernel
theorem d_La_law_802 : decode b_La_law 802 = .ok (.iload 4, 2) := by decide +kernel
theorem d_La_law_804 : decode b_La_law 804 = .ok (.iconst 1, 1) := by decide +kernel
theorem d_La_law_805 : decode b_La_law 805 = .ok (.iadd, 1) := by decide +kernel
theorem d_La_law_806 : decode b_La_law 806 = .ok (.iaload, 1) := by decide +kernel
theorem d_La_law_807 : decode b_La_law 807 = .ok (.aload_n 0, 1) := by decide +kernel
theorem d_La_law_808 : decode b_La_law 808 = .ok (.iload 4, 2) := by decide +kernel
theorem d_La_law_810 : decode b_La_law 810 = .ok (.iconst 2, 1) := by decide +kernel
theorem d_La_law_811 : decode b_La_law 811 = .ok (.iadd, 1) := by decide +kernel
theorem d_La_law_812 : decode b_La_law 812 = .ok (.iaload, 1) := by decide +kernel
theorem d_La_law_813 : decode b_La_law 813 = .ok (.aload_n 3, 1) := by decide +kernel
theorem d_La_law_814 : decode b_La_law 814 = .ok (.invokestatic 130, 3) := by decide +kernel
theorem d_La_law_817 : decode b_La_law 817 = .ok (.istore 5, 2) := by decide +kernel
theorem d_La_law_819 : decode b_La_law 819 = .ok (.aload_n 2, 1) := by decide +kernel
theorem d_La_law_820 : decode b_La_law 820 = .ok (.aload_n 0, 1) := by decide +kernel
theorem d_La_law_821 : decode b_La_law 821 = .ok (.iload 4, 2) := by decide +kernel
theorem d_La_law_823 : decode b_La_law 823 = .ok (.iconst 1, 1) := by decide +kernel
theorem d_La_law_824 : decode b_La_law 824 = .ok (.iadd, 1) := by decide +kernel
theorem d_La_law_825 : decode b_La_law 825 = .ok (.iaload, 1) := by decide +kernel
theorem d_La_law_826 : decode b_La_law 826 = .ok (.aload_n 0, 1) := by decide +kernel
theorem d_La_law_827 : decode b_La_law 827 = .ok (.iload 4, 2) := by decide +kernel
theorem d_La_law_829 : decode b_La_law 829 = .ok (.iconst 2, 1) := by decide +kernel
theorem d_La_law_830 : decode b_La_law 830 = .ok (.iadd, 1) := by decide +kernel
theorem d_La_law_831 : decode b_La_law 831 = .ok (.iaload, 1) := by decide +kernel
theorem d_La_law_832 : decode b_La_law 832 = .ok (.invokevirtual 132, 3) := by decide +kernel
theorem d_La_law_835 : decode b_La_law 835 = .ok (.lstore 6, 2) := by decide +kernel
theorem d_La_law_837 : decode b_La_law 837 = .ok (.goto 68, 3) := by decide +kernel
theorem d_La_law_840 : decode b_La_law 840 = .ok (.aload_n 1, 1) := by decide +kernel
theorem d_La_law_841 : decode b_La_law 841 = .ok (.aload_n 0, 1) := by decide +kernel
theorem d_La_law_842 : decode b_La_law 842 = .ok (.iload 4, 2) := by decide +kernel
theorem d_La_law_844 : decode b_La_law 844 = .ok (.iconst 1, 1) := by decide +kernel
theorem d_La_law_845 : decode b_La_law 845 = .ok (.iadd, 1) := by decide +kernel
theorem d_La_law_846 : decode b_La_law 846 = .ok (.iaload, 1) := by decide +kernel
theorem d_La_law_847 : decode b_La_law 847 = .ok (.aload_n 0, 1) := by decide +kernel
theorem d_La_law_848 : decode b_La_law 848 = .ok (.iload 4, 2) := by decide +kernel
theorem d_La_law_850 : decode b_La_law 850 = .ok (.iconst 2, 1) := by decide +kernel
theorem d_La_law_851 : decode b_La_law 851 = .ok (.iadd, 1) := by decide +kernel
theorem d_La_law_852 : decode b_La_law 852 = .ok (.iaload, 1) := by decide +kernel
theorem d_La_law_853 : decode b_La_law 853 = .ok (.aload_n 3, 1) := by decide +kernel
theorem d_La_law_854 : decode b_La_law 854 = .ok (.invokestatic 133, 3) := by decide +kernel
theorem d_La_law_857 : decode b_La_law 857 = .ok (.istore 5, 2) := by decide +kernel
theorem d_La_law_859 : decode b_La_law 859 = .ok (.aload_n 2, 1) := by decide +kernel
theorem d_La_law_860 : decode b_La_law 860 = .ok (.aload_n 0, 1) := by decide +kernel
theorem d_La_law_861 : decode b_La_law 861 = .ok (.iload 4, 2) := by decide +kernel
theorem d_La_law_863 : decode b_La_law 863 = .ok (.iconst 1, 1) := by decide +kernel
theorem d_La_law_864 : decode b_La_law 864 = .ok (.iadd, 1) := by decide +kernel
theorem d_La_law_865 : decode b_La_law 865 = .ok (.iaload, 1) := by decide +kernel
theorem d_La_law_866 : decode b_La_law 866 = .ok (.aload_n 0, 1) := by decide +kernel
theorem d_La_law_867 : decode b_La_law 867 = .ok (.iload 4, 2) := by decide +kernel
theorem d_La_law_869 : decode b_La_law 869 = .ok (.iconst 2, 1) := by decide +kernel
theorem d_La_law_870 : decode b_La_law 870 = .ok (.iadd, 1) := by decide +kernel
theorem d_La_law_871 : decode b_La_law 871 = .ok (.iaload, 1) := by decide +kernel
theorem d_La_law_872 : decode b_La_law 872 = .ok (.invokevirtual 135, 3) := by decide +kernel
theorem d_La_law_875 : decode b_La_law 875 = .ok (.lstore 6, 2) := by decide +kernel
theorem d_La_law_877 : decode b_La_law 877 = .ok (.goto 28, 3) := by decide +kernel
theorem d_La_law_880 : decode b_La_law 880 = .ok (.aload_n 1, 1) := by decide +kernel
theorem d_La_law_881 : decode b_La_law 881 = .ok (.aload_n 0, 1) := by decide +kernel
theorem d_La_law_882 : decode b_La_law 882 = .ok (.iload 4, 2) := by decide +kernel
theorem d_La_law_884 : decode b_La_law 884 = .ok (.iconst 1, 1) := by decide +kernel
theorem d_La_law_885 : decode b_La_law 885 = .ok (.iadd, 1) := by decide +kernel
theorem d_La_law_886 : decode b_La_law 886 = .ok (.iaload, 1) := by decide +kernel
theorem d_La_law_887 : decode b_La_law 887 = .ok (.invokevirtual 136, 3) := by decide +kernel
theorem d_La_law_890 : decode b_La_law 890 = .ok (.pop, 1) := by decide +kernel
theorem d_La_law_891 : decode b_La_law 891 = .ok (.aload_n 2, 1) := by decide +kernel
theorem d_La_law_892 : decode b_La_law 892 = .ok (.aload_n 0, 1) := by decide +kernel
theorem d_La_law_893 : decode b_La_law 893 = .ok (.iload 4, 2) := by decide +kernel
theorem d_La_law_895 : decode b_La_law 895 = .ok (.iconst 1, 1) := by decide +kernel
theorem d_La_law_896 : decode b_La_law 896 = .ok (.iadd, 1) := by decide +kernel
theorem d_La_law_897 : decode b_La_law 897 = .ok (.iaload, 1) := by decide +kernel
theorem d_La_law_898 : decode b_La_law 898 = .ok (.invokevirtual 139, 3) := by decide +kernel
theorem d_La_law_901 : decode b_La_law 901 = .ok (.pop, 1) := by decide +kernel
theorem d_La_law_902 : decode b_La_law 902 = .ok (.goto 3, 3) := by decide +kernel
theorem d_La_law_905 : decode b_La_law 905 = .ok (.iinc 4 9, 3) := by decide +kernel
theorem d_La_law_908 : decode b_La_law 908 = .ok (.goto (-885), 3) := by decide +kernel
theorem d_La_law_911 : decode b_La_law 911 = .ok (.iconst 1, 1) := by decide +kernel
theorem d_La_law_912 : decode b_La_law 912 = .ok (.ireturn, 1) := by decide +kernel
