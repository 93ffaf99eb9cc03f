theorem d_La_law_726 : decode b_La_law 726 = .ok (.aload_n 2, 1) := by decide +kernel
theorem d_La_law_727 : decode b_La_law 727 = .ok (.invokevirtual 118, 3) := by decide +kernel
theorem d_La_law_730 : decode b_La_law 730 = .ok (.pop, 1) := by decide +kernel
theorem d_La_law_731 : decode b_La_law 731 = .ok (.goto 146, 3) := by decide +kernel
theorem d_La_law_734 : decode b_La_law 734 = .ok (.aload_n 1, 1) := by decide +kernel
theorem d_La_law_735 : decode b_La_law 735 = .ok (.invokevirtual 119, 3) := by decide +kernel
theorem d_La_law_738 : decode b_La_law 738 = .ok (.pop, 1) := by decide +kernel
theorem d_La_law_739 : decode b_La_law 739 = .ok (.aload_n 2, 1) := by decide +kernel
theorem d_La_law_740 : decode b_La_law 740 = .ok (.invokevirtual 122, 3) := by decide +kernel
theorem d_La_law_743 : decode b_La_law 743 = .ok (.pop, 1) := by decide +kernel
theorem d_La_law_744 : decode b_La_law 744 = .ok (.goto 133, 3) := by decide +kernel
theorem d_La_law_747 : decode b_La_law 747 = .ok (.aload_n 1, 1) := by decide +kernel
theorem d_La_law_748 : decode b_La_law 748 = .ok (.aload_n 0, 1) := by decide +kernel
theorem d_La_law_749 : decode b_La_law 749 = .ok (.iload 4, 2) := by decide +kernel
theorem d_La_law_751 : decode b_La_law 751 = .ok (.iconst 1, 1) := by decide +kernel
theorem d_La_law_752 : decode b_La_law 752 = .ok (.iadd, 1) := by decide +kernel
theorem d_La_law_753 : decode b_La_law 753 = .ok (.iaload, 1) := by decide +kernel
theorem d_La_law_754 : decode b_La_law 754 = .ok (.invokevirtual 123, 3) := by decide +kernel
theorem d_La_law_757 : decode b_La_law 757 = .ok (.pop2, 1) := by decide +kernel
theorem d_La_law_758 : decode b_La_law 758 = .ok (.aload_n 2, 1) := by decide +kernel
theorem d_La_law_759 : decode b_La_law 759 = .ok (.aload_n 0, 1) := by decide +kernel
theorem d_La_law_760 : decode b_La_law 760 = .ok (.iload 4, 2) := by decide +kernel
theorem d_La_law_762 : decode b_La_law 762 = .ok (.iconst 1, 1) := by decide +kernel
theorem d_La_law_763 : decode b_La_law 763 = .ok (.iadd, 1) := by decide +kernel
theorem d_La_law_764 : decode b_La_law 764 = .ok (.iaload, 1) := by decide +kernel
theorem d_La_law_765 : decode b_La_law 765 = .ok (.invokevirtual 126, 3) := by decide +kernel
theorem d_La_law_768 : decode b_La_law 768 = .ok (.pop2, 1) := by decide +kernel
theorem d_La_law_769 : decode b_La_law 769 = .ok (.goto 108, 3) := by decide +kernel
theorem d_La_law_772 : decode b_La_law 772 = .ok (.aload_n 1, 1) := by decide +kernel
theorem d_La_law_773 : decode b_La_law 773 = .ok (.aload_n 0, 1) := by decide +kernel
theorem d_La_law_774 : decode b_La_law 774 = .ok (.iload 4, 2) := by decide +kernel
theorem d_La_law_776 : decode b_La_law 776 = .ok (.iconst 1, 1) := by decide +kernel
theorem d_La_law_777 : decode b_La_law 777 = .ok (.iadd, 1) := by decide +kernel
theorem d_La_law_778 : decode b_La_law 778 = .ok (.iaload, 1) := by decide +kernel
theorem d_La_law_779 : decode b_La_law 779 = .ok (.aload_n 0, 1) := by decide +kernel
theorem d_La_law_780 : decode b_La_law 780 = .ok (.iload 4, 2) := by decide +kernel
theorem d_La_law_782 : decode b_La_law 782 = .ok (.iconst 2, 1) := by decide +kernel
theorem d_La_law_783 : decode b_La_law 783 = .ok (.iadd, 1) := by decide +kernel
theorem d_La_law_784 : decode b_La_law 784 = .ok (.iaload, 1) := by decide +kernel
theorem d_La_law_785 : decode b_La_law 785 = .ok (.aload_n 3, 1) := by decide +kernel
theorem d_La_law_786 : decode b_La_law 786 = .ok (.invokestatic 127, 3) := by decide +kernel
theorem d_La_law_789 : decode b_La_law 789 = .ok (.istore 5, 2) := by decide +kernel
theorem d_La_law_791 : decode b_La_law 791 = .ok (.aload_n 2, 1) := by decide +kernel
theorem d_La_law_792 : decode b_La_law 792 = .ok (.aload_n 0, 1) := by decide +kernel
theorem d_La_law_793 : decode b_La_law 793 = .ok (.iload 4, 2) := by decide +kernel
theorem d_La_law_795 : decode b_La_law 795 = .ok (.iconst 1, 1) := by decide +kernel
theorem d_La_law_796 : decode b_La_law 796 = .ok (.iadd, 1) := by decide +kernel
theorem d_La_law_797 : decode b_La_law 797 = .ok (.iaload, 1) := by decide +kernel
theorem d_La_law_798 : decode b_La_law 798 = .ok (.aload_n 0, 1) := by decide +kernel
theorem d_La_law_799 : decode b_La_law 799 = .ok (.iload 4, 2) := by decide +kernel
theorem d_La_law_801 : decode b_La_law 801 = .ok (.iconst 2, 1) := by decide +kernel
theorem d_La_law_802 : decode b_La_law 802 = .ok (.iadd, 1) := by decide +kernel
theorem d_La_law_803 : decode b_La_law 803 = .ok (.iaload, 1) := by decide +kernel
theorem d_La_law_804 : decode b_La_law 804 = .ok (.invokevirtual 129, 3) := by decide +kernel
theorem d_La_law_807 : decode b_La_law 807 = .ok (.lstore 6, 2) := by decide +kernel
theorem d_La_law_809 : decode b_La_law 809 = .ok (.goto 68, 3) := by decide +kernel
theorem d_La_law_812 : decode b_La_law 812 = .ok (.aload_n 1, 1) := by decide +kernel
theorem d_La_law_813 : decode b_La_law 813 = .ok (.aload_n 0, 1) := by decide +kernel
theorem d_La_law_814 : decode b_La_law 814 = .ok (.iload 4, 2) := by decide +kernel
theorem d_La_law_816 : decode b_La_law 816 = .ok (.iconst 1, 1) := by decide +kernel
theorem d_La_law_817 : decode b_La_law 817 = .ok (.iadd, 1) := by decide +kernel
theorem d_La_law_818 : decode b_La_law 818 = .ok (.iaload, 1) := by decide +kernel
theorem d_La_law_819 : decode b_La_law 819 = .ok (.aload_n 0, 1) := by decide +kernel
theorem d_La_law_820 : decode b_La_law 820 = .ok (.iload 4, 2) := by decide +kernel
theorem d_La_law_822 : decode b_La_law 822 = .ok (.iconst 2, 1) := by decide +kernel
theorem d_La_law_823 : decode b_La_law 823 = .ok (.iadd, 1) := by decide +kernel
theorem d_La_law_824 : decode b_La_law 824 = .ok (.iaload, 1) := by decide +kernel
theorem d_La_law_825 : decode b_La_law 825 = .ok (.aload_n 3, 1) := by decide +kernel
theorem d_La_law_826 : decode b_La_law 826 = .ok (.invokestatic 130, 3) := by decide +kernel
theorem d_La_law_829 : decode b_La_law 829 = .ok (.istore 5, 2) := by decide +kernel
theorem d_La_law_831 : decode b_La_law 831 = .ok (.aload_n 2, 1) := by decide +kernel
theorem d_La_law_832 : decode b_La_law 832 = .ok (.aload_n 0, 1) := by decide +kernel
theorem d_La_law_833 : decode b_La_law 833 = .ok (.iload 4, 2) := by decide +kernel
theorem d_La_law_835 : decode b_La_law 835 = .ok (.iconst 1, 1) := by decide +kernel
theorem d_La_law_836 : decode b_La_law 836 = .ok (.iadd, 1) := by decide +kernel
theorem d_La_law_837 : decode b_La_law 837 = .ok (.iaload, 1) := by decide +kernel
theorem d_La_law_838 : decode b_La_law 838 = .ok (.aload_n 0, 1) := by decide +kernel
theorem d_La_law_839 : decode b_La_law 839 = .ok (.iload 4, 2) := by decide +kernel
theorem d_La_law_841 : decode b_La_law 841 = .ok (.iconst 2, 1) := by decide +kernel
theorem d_La_law_842 : decode b_La_law 842 = .ok (.iadd, 1) := by decide +kernel
theorem d_La_law_843 : decode b_La_law 843 = .ok (.iaload, 1) := by decide +kernel
theorem d_La_law_844 : decode b_La_law 844 = .ok (.invokevirtual 132, 3) := by decide +kernel
theorem d_La_law_847 : decode b_La_law 847 = .ok (.lstore 6, 2) := by decide +kernel
theorem d_La_law_849 : decode b_La_law 849 = .ok (.goto 28, 3) := by decide +kernel
theorem d_La_law_852 : decode b_La_law 852 = .ok (.aload_n 1, 1) := by decide +kernel
theorem d_La_law_853 : decode b_La_law 853 = .ok (.aload_n 0, 1) := by decide +kernel
theorem d_La_law_854 : decode b_La_law 854 = .ok (.iload 4, 2) := by decide +kernel
theorem d_La_law_856 : decode b_La_law 856 = .ok (.iconst 1, 1) := by decide +kernel
theorem d_La_law_857 : decode b_La_law 857 = .ok (.iadd, 1) := by decide +kernel
theorem d_La_law_858 : decode b_La_law 858 = .ok (.iaload, 1) := by decide +kernel
theorem d_La_law_859 : decode b_La_law 859 = .ok (.invokevirtual 133, 3) := by decide +kernel
theorem d_La_law_862 : decode b_La_law 862 = .ok (.aload_n 2, 1) := by decide +kernel
theorem d_La_law_863 : decode b_La_law 863 = .ok (.aload_n 0, 1) := by decide +kernel
theorem d_La_law_864 : decode b_La_law 864 = .ok (.iload 4, 2) := by decide +kernel
theorem d_La_law_866 : decode b_La_law 866 = .ok (.iconst 1, 1) := by decide +kernel
theorem d_La_law_867 : decode b_La_law 867 = .ok (.iadd, 1) := by decide +kernel
theorem d_La_law_868 : decode b_La_law 868 = .ok (.iaload, 1) := by decide +kernel
theorem d_La_law_869 : decode b_La_law 869 = .ok (.invokevirtual 136, 3) := by decide +kernel
theorem d_La_law_872 : decode b_La_law 872 = .ok (.if_icmp .eq 5, 3) := by decide +kernel
theorem d_La_law_875 : decode b_La_law 875 = .ok (.iconst 0, 1) := by decide +kernel
theorem d_La_law_876 : decode b_La_law 876 = .ok (.ireturn, 1) := by decide +kernel
theorem d_La_law_877 : decode b_La_law 877 = .ok (.iinc 4 9, 3) := by decide +kernel
theorem d_La_law_880 : decode b_La_law 880 = .ok (.goto (-857), 3) := by decide +kernel
theorem d_La_law_883 : decode b_La_law 883 = .ok (.iconst 1, 1) := by decide +kernel
theorem d_La_law_884 : decode b_La_law 884 = .ok (.ireturn, 1) := by decide +kernel
