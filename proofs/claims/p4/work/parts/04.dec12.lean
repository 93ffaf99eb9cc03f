theorem d_La_law_721 : decode b_La_law 721 = .ok (.iconst 1, 1) := by decide +kernel
theorem d_La_law_722 : decode b_La_law 722 = .ok (.iadd, 1) := by decide +kernel
theorem d_La_law_723 : decode b_La_law 723 = .ok (.iaload, 1) := by decide +kernel
theorem d_La_law_724 : decode b_La_law 724 = .ok (.invokevirtual 117, 3) := by decide +kernel
theorem d_La_law_727 : decode b_La_law 727 = .ok (.istore 6, 2) := by decide +kernel
theorem d_La_law_729 : decode b_La_law 729 = .ok (.goto 159, 3) := by decide +kernel
theorem d_La_law_732 : decode b_La_law 732 = .ok (.aload_n 1, 1) := by decide +kernel
theorem d_La_law_733 : decode b_La_law 733 = .ok (.invokevirtual 118, 3) := by decide +kernel
theorem d_La_law_736 : decode b_La_law 736 = .ok (.pop, 1) := by decide +kernel
theorem d_La_law_737 : decode b_La_law 737 = .ok (.aload_n 2, 1) := by decide +kernel
theorem d_La_law_738 : decode b_La_law 738 = .ok (.invokevirtual 121, 3) := by decide +kernel
theorem d_La_law_741 : decode b_La_law 741 = .ok (.pop, 1) := by decide +kernel
theorem d_La_law_742 : decode b_La_law 742 = .ok (.goto 146, 3) := by decide +kernel
theorem d_La_law_745 : decode b_La_law 745 = .ok (.aload_n 1, 1) := by decide +kernel
theorem d_La_law_746 : decode b_La_law 746 = .ok (.invokevirtual 122, 3) := by decide +kernel
theorem d_La_law_749 : decode b_La_law 749 = .ok (.pop, 1) := by decide +kernel
theorem d_La_law_750 : decode b_La_law 750 = .ok (.aload_n 2, 1) := by decide +kernel
theorem d_La_law_751 : decode b_La_law 751 = .ok (.invokevirtual 125, 3) := by decide +kernel
theorem d_La_law_754 : decode b_La_law 754 = .ok (.pop, 1) := by decide +kernel
theorem d_La_law_755 : decode b_La_law 755 = .ok (.goto 133, 3) := by decide +kernel
theorem d_La_law_758 : decode b_La_law 758 = .ok (.aload_n 1, 1) := by decide +kernel
theorem d_La_law_759 : decode b_La_law 759 = .ok (.aload_n 0, 1) := by decide +kernel
theorem d_La_law_760 : decode b_La_law 760 = .ok (.iload 4, 2) := by decide +kernel
theorem d_La_law_762 : decode b_La_law 762 = .ok (.iconst 1, 1) := by decide +kernel
theorem d_La_law_763 : decode b_La_law 763 = .ok (.iadd, 1) := by decide +kernel
theorem d_La_law_764 : decode b_La_law 764 = .ok (.iaload, 1) := by decide +kernel
theorem d_La_law_765 : decode b_La_law 765 = .ok (.invokevirtual 126, 3) := by decide +kernel
theorem d_La_law_768 : decode b_La_law 768 = .ok (.pop2, 1) := by decide +kernel
theorem d_La_law_769 : decode b_La_law 769 = .ok (.aload_n 2, 1) := by decide +kernel
theorem d_La_law_770 : decode b_La_law 770 = .ok (.aload_n 0, 1) := by decide +kernel
theorem d_La_law_771 : decode b_La_law 771 = .ok (.iload 4, 2) := by decide +kernel
theorem d_La_law_773 : decode b_La_law 773 = .ok (.iconst 1, 1) := by decide +kernel
theorem d_La_law_774 : decode b_La_law 774 = .ok (.iadd, 1) := by decide +kernel
theorem d_La_law_775 : decode b_La_law 775 = .ok (.iaload, 1) := by decide +kernel
theorem d_La_law_776 : decode b_La_law 776 = .ok (.invokevirtual 129, 3) := by decide +kernel
theorem d_La_law_779 : decode b_La_law 779 = .ok (.pop2, 1) := by decide +kernel
theorem d_La_law_780 : decode b_La_law 780 = .ok (.goto 108, 3) := by decide +kernel
theorem d_La_law_783 : decode b_La_law 783 = .ok (.aload_n 1, 1) := by decide +kernel
theorem d_La_law_784 : decode b_La_law 784 = .ok (.aload_n 0, 1) := by decide +kernel
theorem d_La_law_785 : decode b_La_law 785 = .ok (.iload 4, 2) := by decide +kernel
theorem d_La_law_787 : decode b_La_law 787 = .ok (.iconst 1, 1) := by decide +kernel
theorem d_La_law_788 : decode b_La_law 788 = .ok (.iadd, 1) := by decide +kernel
theorem d_La_law_789 : decode b_La_law 789 = .ok (.iaload, 1) := by decide +kernel
theorem d_La_law_790 : decode b_La_law 790 = .ok (.aload_n 0, 1) := by decide +kernel
theorem d_La_law_791 : decode b_La_law 791 = .ok (.iload 4, 2) := by decide +kernel
theorem d_La_law_793 : decode b_La_law 793 = .ok (.iconst 2, 1) := by decide +kernel
theorem d_La_law_794 : decode b_La_law 794 = .ok (.iadd, 1) := by decide +kernel
theorem d_La_law_795 : decode b_La_law 795 = .ok (.iaload, 1) := by decide +kernel
theorem d_La_law_796 : decode b_La_law 796 = .ok (.aload_n 3, 1) := by decide +kernel
theorem d_La_law_797 : decode b_La_law 797 = .ok (.invokestatic 130, 3) := by decide +kernel
theorem d_La_law_800 : decode b_La_law 800 = .ok (.istore 5, 2) := by decide +kernel
theorem d_La_law_802 : decode b_La_law 802 = .ok (.aload_n 2, 1) := by decide +kernel
theorem d_La_law_803 : decode b_La_law 803 = .ok (.aload_n 0, 1) := by decide +kernel
theorem d_La_law_804 : decode b_La_law 804 = .ok (.iload 4, 2) := by decide +kernel
theorem d_La_law_806 : decode b_La_law 806 = .ok (.iconst 1, 1) := by decide +kernel
theorem d_La_law_807 : decode b_La_law 807 = .ok (.iadd, 1) := by decide +kernel
theorem d_La_law_808 : decode b_La_law 808 = .ok (.iaload, 1) := by decide +kernel
theorem d_La_law_809 : decode b_La_law 809 = .ok (.aload_n 0, 1) := by decide +kernel
theorem d_La_law_810 : decode b_La_law 810 = .ok (.iload 4, 2) := by decide +kernel
theorem d_La_law_812 : decode b_La_law 812 = .ok (.iconst 2, 1) := by decide +kernel
theorem d_La_law_813 : decode b_La_law 813 = .ok (.iadd, 1) := by decide +kernel
theorem d_La_law_814 : decode b_La_law 814 = .ok (.iaload, 1) := by decide +kernel
theorem d_La_law_815 : decode b_La_law 815 = .ok (.invokevirtual 132, 3) := by decide +kernel
theorem d_La_law_818 : decode b_La_law 818 = .ok (.lstore 6, 2) := by decide +kernel
theorem d_La_law_820 : decode b_La_law 820 = .ok (.goto 68, 3) := by decide +kernel
theorem d_La_law_823 : decode b_La_law 823 = .ok (.aload_n 1, 1) := by decide +kernel
theorem d_La_law_824 : decode b_La_law 824 = .ok (.aload_n 0, 1) := by decide +kernel
theorem d_La_law_825 : decode b_La_law 825 = .ok (.iload 4, 2) := by decide +kernel
theorem d_La_law_827 : decode b_La_law 827 = .ok (.iconst 1, 1) := by decide +kernel
theorem d_La_law_828 : decode b_La_law 828 = .ok (.iadd, 1) := by decide +kernel
theorem d_La_law_829 : decode b_La_law 829 = .ok (.iaload, 1) := by decide +kernel
theorem d_La_law_830 : decode b_La_law 830 = .ok (.aload_n 0, 1) := by decide +kernel
theorem d_La_law_831 : decode b_La_law 831 = .ok (.iload 4, 2) := by decide +kernel
theorem d_La_law_833 : decode b_La_law 833 = .ok (.iconst 2, 1) := by decide +kernel
theorem d_La_law_834 : decode b_La_law 834 = .ok (.iadd, 1) := by decide +kernel
theorem d_La_law_835 : decode b_La_law 835 = .ok (.iaload, 1) := by decide +kernel
theorem d_La_law_836 : decode b_La_law 836 = .ok (.aload_n 3, 1) := by decide +kernel
theorem d_La_law_837 : decode b_La_law 837 = .ok (.invokestatic 133, 3) := by decide +kernel
theorem d_La_law_840 : decode b_La_law 840 = .ok (.istore 5, 2) := by decide +kernel
theorem d_La_law_842 : decode b_La_law 842 = .ok (.aload_n 2, 1) := by decide +kernel
theorem d_La_law_843 : decode b_La_law 843 = .ok (.aload_n 0, 1) := by decide +kernel
theorem d_La_law_844 : decode b_La_law 844 = .ok (.iload 4, 2) := by decide +kernel
theorem d_La_law_846 : decode b_La_law 846 = .ok (.iconst 1, 1) := by decide +kernel
theorem d_La_law_847 : decode b_La_law 847 = .ok (.iadd, 1) := by decide +kernel
theorem d_La_law_848 : decode b_La_law 848 = .ok (.iaload, 1) := by decide +kernel
theorem d_La_law_849 : decode b_La_law 849 = .ok (.aload_n 0, 1) := by decide +kernel
theorem d_La_law_850 : decode b_La_law 850 = .ok (.iload 4, 2) := by decide +kernel
theorem d_La_law_852 : decode b_La_law 852 = .ok (.iconst 2, 1) := by decide +kernel
theorem d_La_law_853 : decode b_La_law 853 = .ok (.iadd, 1) := by decide +kernel
theorem d_La_law_854 : decode b_La_law 854 = .ok (.iaload, 1) := by decide +kernel
theorem d_La_law_855 : decode b_La_law 855 = .ok (.invokevirtual 135, 3) := by decide +kernel
theorem d_La_law_858 : decode b_La_law 858 = .ok (.lstore 6, 2) := by decide +kernel
theorem d_La_law_860 : decode b_La_law 860 = .ok (.goto 28, 3) := by decide +kernel
theorem d_La_law_863 : decode b_La_law 863 = .ok (.aload_n 1, 1) := by decide +kernel
theorem d_La_law_864 : decode b_La_law 864 = .ok (.aload_n 0, 1) := by decide +kernel
theorem d_La_law_865 : decode b_La_law 865 = .ok (.iload 4, 2) := by decide +kernel
theorem d_La_law_867 : decode b_La_law 867 = .ok (.iconst 1, 1) := by decide +kernel
theorem d_La_law_868 : decode b_La_law 868 = .ok (.iadd, 1) := by decide +kernel
theorem d_La_law_869 : decode b_La_law 869 = .ok (.iaload, 1) := by decide +kernel
theorem d_La_law_870 : decode b_La_law 870 = .ok (.invokevirtual 136, 3) := by decide +kernel
theorem d_La_law_873 : decode b_La_law 873 = .ok (.pop, 1) := by decide +kernel
theorem d_La_law_874 : decode b_La_law 874 = .ok (.aload_n 2, 1) := by decide +kernel
theorem d_La_law_875 : decode b_La_law 875 = .ok (.aload_n 0, 1) := by decide +kernel
theorem d_La_law_876 : decode b_La_law 876 = .ok (.iload 4, 2) := by decide +kernel
theorem d_La_law_878 : decode b_La_law 878 = .ok (.iconst 1, 1) := by decide +kernel
theorem d_La_law_879 : decode b_La_law 879 = .ok (.iadd, 1) := by decide +kernel
theorem d_La_law_880 : decode b_La_law 880 = .ok (.iaload, 1) := by decide +kernel
theorem d_La_law_881 : decode b_La_law 881 = .ok (.invokevirtual 139, 3) := by decide +kernel
theorem d_La_law_884 : decode b_La_law 884 = .ok (.pop, 1) := by decide +kernel
theorem d_La_law_885 : decode b_La_law 885 = .ok (.goto 3, 3) := by decide +kernel
theorem d_La_law_888 : decode b_La_law 888 = .ok (.iinc 4 9, 3) := by decide +kernel
theorem d_La_law_891 : decode b_La_law 891 = .ok (.goto (-868), 3) := by decide +kernel
theorem d_La_law_894 : decode b_La_law 894 = .ok (.iconst 1, 1) := by decide +kernel
theorem d_La_law_895 : decode b_La_law 895 = .ok (.ireturn, 1) := by decide +kernel
