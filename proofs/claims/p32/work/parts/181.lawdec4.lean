theorem dl_744 : decode code 744 = .ok (.invokevirtual 88, 3) := by decide +kernel
theorem dl_747 : decode code 747 = .ok (.pop, 1) := by decide +kernel
theorem dl_748 : decode code 748 = .ok (.goto 477, 3) := by decide +kernel
theorem dl_751 : decode code 751 = .ok (.aload_n 1, 1) := by decide +kernel
theorem dl_752 : decode code 752 = .ok (.aload_n 0, 1) := by decide +kernel
theorem dl_753 : decode code 753 = .ok (.iload_n 3, 1) := by decide +kernel
theorem dl_754 : decode code 754 = .ok (.iconst 1, 1) := by decide +kernel
theorem dl_755 : decode code 755 = .ok (.iadd, 1) := by decide +kernel
theorem dl_756 : decode code 756 = .ok (.iaload, 1) := by decide +kernel
theorem dl_757 : decode code 757 = .ok (.invokevirtual 89, 3) := by decide +kernel
theorem dl_760 : decode code 760 = .ok (.pop, 1) := by decide +kernel
theorem dl_761 : decode code 761 = .ok (.aload_n 2, 1) := by decide +kernel
theorem dl_762 : decode code 762 = .ok (.aload_n 0, 1) := by decide +kernel
theorem dl_763 : decode code 763 = .ok (.iload_n 3, 1) := by decide +kernel
theorem dl_764 : decode code 764 = .ok (.iconst 1, 1) := by decide +kernel
theorem dl_765 : decode code 765 = .ok (.iadd, 1) := by decide +kernel
theorem dl_766 : decode code 766 = .ok (.iaload, 1) := by decide +kernel
theorem dl_767 : decode code 767 = .ok (.invokevirtual 92, 3) := by decide +kernel
theorem dl_770 : decode code 770 = .ok (.pop, 1) := by decide +kernel
theorem dl_771 : decode code 771 = .ok (.goto 454, 3) := by decide +kernel
theorem dl_774 : decode code 774 = .ok (.aload_n 1, 1) := by decide +kernel
theorem dl_775 : decode code 775 = .ok (.aload_n 0, 1) := by decide +kernel
theorem dl_776 : decode code 776 = .ok (.iload_n 3, 1) := by decide +kernel
theorem dl_777 : decode code 777 = .ok (.iconst 1, 1) := by decide +kernel
theorem dl_778 : decode code 778 = .ok (.iadd, 1) := by decide +kernel
theorem dl_779 : decode code 779 = .ok (.iaload, 1) := by decide +kernel
theorem dl_780 : decode code 780 = .ok (.ifCond .eq 7, 3) := by decide +kernel
theorem dl_783 : decode code 783 = .ok (.iconst 1, 1) := by decide +kernel
theorem dl_784 : decode code 784 = .ok (.goto 4, 3) := by decide +kernel
theorem dl_787 : decode code 787 = .ok (.iconst 0, 1) := by decide +kernel
theorem dl_788 : decode code 788 = .ok (.aload_n 0, 1) := by decide +kernel
theorem dl_789 : decode code 789 = .ok (.iload_n 3, 1) := by decide +kernel
theorem dl_790 : decode code 790 = .ok (.iconst 2, 1) := by decide +kernel
theorem dl_791 : decode code 791 = .ok (.iadd, 1) := by decide +kernel
theorem dl_792 : decode code 792 = .ok (.iaload, 1) := by decide +kernel
theorem dl_793 : decode code 793 = .ok (.invokevirtual 93, 3) := by decide +kernel
theorem dl_796 : decode code 796 = .ok (.pop, 1) := by decide +kernel
theorem dl_797 : decode code 797 = .ok (.aload_n 2, 1) := by decide +kernel
theorem dl_798 : decode code 798 = .ok (.aload_n 0, 1) := by decide +kernel
theorem dl_799 : decode code 799 = .ok (.iload_n 3, 1) := by decide +kernel
theorem dl_800 : decode code 800 = .ok (.iconst 1, 1) := by decide +kernel
theorem dl_801 : decode code 801 = .ok (.iadd, 1) := by decide +kernel
theorem dl_802 : decode code 802 = .ok (.iaload, 1) := by decide +kernel
theorem dl_803 : decode code 803 = .ok (.ifCond .eq 7, 3) := by decide +kernel
theorem dl_806 : decode code 806 = .ok (.iconst 1, 1) := by decide +kernel
theorem dl_807 : decode code 807 = .ok (.goto 4, 3) := by decide +kernel
theorem dl_810 : decode code 810 = .ok (.iconst 0, 1) := by decide +kernel
theorem dl_811 : decode code 811 = .ok (.aload_n 0, 1) := by decide +kernel
theorem dl_812 : decode code 812 = .ok (.iload_n 3, 1) := by decide +kernel
theorem dl_813 : decode code 813 = .ok (.iconst 2, 1) := by decide +kernel
theorem dl_814 : decode code 814 = .ok (.iadd, 1) := by decide +kernel
theorem dl_815 : decode code 815 = .ok (.iaload, 1) := by decide +kernel
theorem dl_816 : decode code 816 = .ok (.invokevirtual 96, 3) := by decide +kernel
theorem dl_819 : decode code 819 = .ok (.pop, 1) := by decide +kernel
theorem dl_820 : decode code 820 = .ok (.goto 405, 3) := by decide +kernel
theorem dl_823 : decode code 823 = .ok (.aload_n 1, 1) := by decide +kernel
theorem dl_824 : decode code 824 = .ok (.invokevirtual 97, 3) := by decide +kernel
theorem dl_827 : decode code 827 = .ok (.pop, 1) := by decide +kernel
theorem dl_828 : decode code 828 = .ok (.aload_n 2, 1) := by decide +kernel
theorem dl_829 : decode code 829 = .ok (.invokevirtual 100, 3) := by decide +kernel
theorem dl_832 : decode code 832 = .ok (.pop, 1) := by decide +kernel
theorem dl_833 : decode code 833 = .ok (.goto 392, 3) := by decide +kernel
theorem dl_836 : decode code 836 = .ok (.aload_n 1, 1) := by decide +kernel
theorem dl_837 : decode code 837 = .ok (.aload_n 0, 1) := by decide +kernel
theorem dl_838 : decode code 838 = .ok (.iload_n 3, 1) := by decide +kernel
theorem dl_839 : decode code 839 = .ok (.iconst 1, 1) := by decide +kernel
theorem dl_840 : decode code 840 = .ok (.iadd, 1) := by decide +kernel
theorem dl_841 : decode code 841 = .ok (.iaload, 1) := by decide +kernel
theorem dl_842 : decode code 842 = .ok (.aload_n 0, 1) := by decide +kernel
theorem dl_843 : decode code 843 = .ok (.iload_n 3, 1) := by decide +kernel
theorem dl_844 : decode code 844 = .ok (.iconst 2, 1) := by decide +kernel
theorem dl_845 : decode code 845 = .ok (.iadd, 1) := by decide +kernel
theorem dl_846 : decode code 846 = .ok (.iaload, 1) := by decide +kernel
theorem dl_847 : decode code 847 = .ok (.invokevirtual 101, 3) := by decide +kernel
theorem dl_850 : decode code 850 = .ok (.pop, 1) := by decide +kernel
theorem dl_851 : decode code 851 = .ok (.aload_n 2, 1) := by decide +kernel
theorem dl_852 : decode code 852 = .ok (.aload_n 0, 1) := by decide +kernel
theorem dl_853 : decode code 853 = .ok (.iload_n 3, 1) := by decide +kernel
theorem dl_854 : decode code 854 = .ok (.iconst 1, 1) := by decide +kernel
theorem dl_855 : decode code 855 = .ok (.iadd, 1) := by decide +kernel
theorem dl_856 : decode code 856 = .ok (.iaload, 1) := by decide +kernel
theorem dl_857 : decode code 857 = .ok (.aload_n 0, 1) := by decide +kernel
theorem dl_858 : decode code 858 = .ok (.iload_n 3, 1) := by decide +kernel
theorem dl_859 : decode code 859 = .ok (.iconst 2, 1) := by decide +kernel
theorem dl_860 : decode code 860 = .ok (.iadd, 1) := by decide +kernel
theorem dl_861 : decode code 861 = .ok (.iaload, 1) := by decide +kernel
theorem dl_862 : decode code 862 = .ok (.invokevirtual 104, 3) := by decide +kernel
theorem dl_865 : decode code 865 = .ok (.pop, 1) := by decide +kernel
theorem dl_866 : decode code 866 = .ok (.goto 359, 3) := by decide +kernel
theorem dl_869 : decode code 869 = .ok (.aload_n 1, 1) := by decide +kernel
theorem dl_870 : decode code 870 = .ok (.invokevirtual 105, 3) := by decide +kernel
theorem dl_873 : decode code 873 = .ok (.pop, 1) := by decide +kernel
theorem dl_874 : decode code 874 = .ok (.aload_n 2, 1) := by decide +kernel
theorem dl_875 : decode code 875 = .ok (.invokevirtual 108, 3) := by decide +kernel
theorem dl_878 : decode code 878 = .ok (.pop, 1) := by decide +kernel
theorem dl_879 : decode code 879 = .ok (.goto 346, 3) := by decide +kernel
theorem dl_882 : decode code 882 = .ok (.aload_n 1, 1) := by decide +kernel
theorem dl_883 : decode code 883 = .ok (.aload_n 0, 1) := by decide +kernel
theorem dl_884 : decode code 884 = .ok (.iload_n 3, 1) := by decide +kernel
theorem dl_885 : decode code 885 = .ok (.iconst 1, 1) := by decide +kernel
theorem dl_886 : decode code 886 = .ok (.iadd, 1) := by decide +kernel
theorem dl_887 : decode code 887 = .ok (.iaload, 1) := by decide +kernel
theorem dl_888 : decode code 888 = .ok (.ifCond .eq 7, 3) := by decide +kernel
theorem dl_891 : decode code 891 = .ok (.iconst 1, 1) := by decide +kernel
theorem dl_892 : decode code 892 = .ok (.goto 4, 3) := by decide +kernel
theorem dl_895 : decode code 895 = .ok (.iconst 0, 1) := by decide +kernel
theorem dl_896 : decode code 896 = .ok (.aload_n 0, 1) := by decide +kernel
theorem dl_897 : decode code 897 = .ok (.iload_n 3, 1) := by decide +kernel
theorem dl_898 : decode code 898 = .ok (.iconst 2, 1) := by decide +kernel
theorem dl_899 : decode code 899 = .ok (.iadd, 1) := by decide +kernel
