theorem d_Law_law_771 : decode code 771 = .ok (.iconst 2, 1) := by decide +kernel
theorem d_Law_law_772 : decode code 772 = .ok (.iadd, 1) := by decide +kernel
theorem d_Law_law_773 : decode code 773 = .ok (.iaload, 1) := by decide +kernel
theorem d_Law_law_774 : decode code 774 = .ok (.aload_n 0, 1) := by decide +kernel
theorem d_Law_law_775 : decode code 775 = .ok (.iload 4, 2) := by decide +kernel
theorem d_Law_law_777 : decode code 777 = .ok (.iconst 3, 1) := by decide +kernel
theorem d_Law_law_778 : decode code 778 = .ok (.iadd, 1) := by decide +kernel
theorem d_Law_law_779 : decode code 779 = .ok (.iaload, 1) := by decide +kernel
theorem d_Law_law_780 : decode code 780 = .ok (.aload_n 0, 1) := by decide +kernel
theorem d_Law_law_781 : decode code 781 = .ok (.iload 4, 2) := by decide +kernel
theorem d_Law_law_783 : decode code 783 = .ok (.iconst 4, 1) := by decide +kernel
theorem d_Law_law_784 : decode code 784 = .ok (.iadd, 1) := by decide +kernel
theorem d_Law_law_785 : decode code 785 = .ok (.iaload, 1) := by decide +kernel
theorem d_Law_law_786 : decode code 786 = .ok (.aload_n 3, 1) := by decide +kernel
theorem d_Law_law_787 : decode code 787 = .ok (.invokestatic 105, 3) := by decide +kernel
theorem d_Law_law_790 : decode code 790 = .ok (.istore 5, 2) := by decide +kernel
theorem d_Law_law_792 : decode code 792 = .ok (.aload_n 2, 1) := by decide +kernel
theorem d_Law_law_793 : decode code 793 = .ok (.aload_n 0, 1) := by decide +kernel
theorem d_Law_law_794 : decode code 794 = .ok (.iload 4, 2) := by decide +kernel
theorem d_Law_law_796 : decode code 796 = .ok (.iconst 1, 1) := by decide +kernel
theorem d_Law_law_797 : decode code 797 = .ok (.iadd, 1) := by decide +kernel
theorem d_Law_law_798 : decode code 798 = .ok (.iaload, 1) := by decide +kernel
theorem d_Law_law_799 : decode code 799 = .ok (.aload_n 0, 1) := by decide +kernel
theorem d_Law_law_800 : decode code 800 = .ok (.iload 4, 2) := by decide +kernel
theorem d_Law_law_802 : decode code 802 = .ok (.iconst 2, 1) := by decide +kernel
theorem d_Law_law_803 : decode code 803 = .ok (.iadd, 1) := by decide +kernel
theorem d_Law_law_804 : decode code 804 = .ok (.iaload, 1) := by decide +kernel
theorem d_Law_law_805 : decode code 805 = .ok (.aload_n 0, 1) := by decide +kernel
theorem d_Law_law_806 : decode code 806 = .ok (.iload 4, 2) := by decide +kernel
theorem d_Law_law_808 : decode code 808 = .ok (.iconst 3, 1) := by decide +kernel
theorem d_Law_law_809 : decode code 809 = .ok (.iadd, 1) := by decide +kernel
theorem d_Law_law_810 : decode code 810 = .ok (.iaload, 1) := by decide +kernel
theorem d_Law_law_811 : decode code 811 = .ok (.aload_n 0, 1) := by decide +kernel
theorem d_Law_law_812 : decode code 812 = .ok (.iload 4, 2) := by decide +kernel
theorem d_Law_law_814 : decode code 814 = .ok (.iconst 4, 1) := by decide +kernel
theorem d_Law_law_815 : decode code 815 = .ok (.iadd, 1) := by decide +kernel
theorem d_Law_law_816 : decode code 816 = .ok (.iaload, 1) := by decide +kernel
theorem d_Law_law_817 : decode code 817 = .ok (.invokevirtual 108, 3) := by decide +kernel
theorem d_Law_law_820 : decode code 820 = .ok (.istore 6, 2) := by decide +kernel
theorem d_Law_law_822 : decode code 822 = .ok (.aload_n 2, 1) := by decide +kernel
theorem d_Law_law_823 : decode code 823 = .ok (.invokevirtual 71, 3) := by decide +kernel
theorem d_Law_law_826 : decode code 826 = .ok (.iload 5, 2) := by decide +kernel
theorem d_Law_law_828 : decode code 828 = .ok (.if_icmp .eq 5, 3) := by decide +kernel
theorem d_Law_law_831 : decode code 831 = .ok (.iconst 0, 1) := by decide +kernel
theorem d_Law_law_832 : decode code 832 = .ok (.ireturn, 1) := by decide +kernel
theorem d_Law_law_833 : decode code 833 = .ok (.iload 5, 2) := by decide +kernel
theorem d_Law_law_835 : decode code 835 = .ok (.ifCond .ne 15, 3) := by decide +kernel
theorem d_Law_law_838 : decode code 838 = .ok (.aload_n 3, 1) := by decide +kernel
theorem d_Law_law_839 : decode code 839 = .ok (.iconst 0, 1) := by decide +kernel
theorem d_Law_law_840 : decode code 840 = .ok (.laload, 1) := by decide +kernel
theorem d_Law_law_841 : decode code 841 = .ok (.iload 6, 2) := by decide +kernel
theorem d_Law_law_843 : decode code 843 = .ok (.i2l, 1) := by decide +kernel
theorem d_Law_law_844 : decode code 844 = .ok (.lcmp, 1) := by decide +kernel
theorem d_Law_law_845 : decode code 845 = .ok (.ifCond .eq 5, 3) := by decide +kernel
theorem d_Law_law_848 : decode code 848 = .ok (.iconst 0, 1) := by decide +kernel
theorem d_Law_law_849 : decode code 849 = .ok (.ireturn, 1) := by decide +kernel
theorem d_Law_law_850 : decode code 850 = .ok (.goto 413, 3) := by decide +kernel
theorem d_Law_law_853 : decode code 853 = .ok (.aload_n 1, 1) := by decide +kernel
theorem d_Law_law_854 : decode code 854 = .ok (.aload_n 0, 1) := by decide +kernel
theorem d_Law_law_855 : decode code 855 = .ok (.iload 4, 2) := by decide +kernel
theorem d_Law_law_857 : decode code 857 = .ok (.iconst 1, 1) := by decide +kernel
theorem d_Law_law_858 : decode code 858 = .ok (.iadd, 1) := by decide +kernel
theorem d_Law_law_859 : decode code 859 = .ok (.iaload, 1) := by decide +kernel
theorem d_Law_law_860 : decode code 860 = .ok (.aload_n 0, 1) := by decide +kernel
theorem d_Law_law_861 : decode code 861 = .ok (.iload 4, 2) := by decide +kernel
theorem d_Law_law_863 : decode code 863 = .ok (.iconst 2, 1) := by decide +kernel
theorem d_Law_law_864 : decode code 864 = .ok (.iadd, 1) := by decide +kernel
theorem d_Law_law_865 : decode code 865 = .ok (.iaload, 1) := by decide +kernel
theorem d_Law_law_866 : decode code 866 = .ok (.aload_n 3, 1) := by decide +kernel
theorem d_Law_law_867 : decode code 867 = .ok (.invokestatic 109, 3) := by decide +kernel
theorem d_Law_law_870 : decode code 870 = .ok (.istore 5, 2) := by decide +kernel
theorem d_Law_law_872 : decode code 872 = .ok (.aload_n 2, 1) := by decide +kernel
theorem d_Law_law_873 : decode code 873 = .ok (.aload_n 0, 1) := by decide +kernel
theorem d_Law_law_874 : decode code 874 = .ok (.iload 4, 2) := by decide +kernel
theorem d_Law_law_876 : decode code 876 = .ok (.iconst 1, 1) := by decide +kernel
theorem d_Law_law_877 : decode code 877 = .ok (.iadd, 1) := by decide +kernel
theorem d_Law_law_878 : decode code 878 = .ok (.iaload, 1) := by decide +kernel
theorem d_Law_law_879 : decode code 879 = .ok (.aload_n 0, 1) := by decide +kernel
theorem d_Law_law_880 : decode code 880 = .ok (.iload 4, 2) := by decide +kernel
theorem d_Law_law_882 : decode code 882 = .ok (.iconst 2, 1) := by decide +kernel
theorem d_Law_law_883 : decode code 883 = .ok (.iadd, 1) := by decide +kernel
theorem d_Law_law_884 : decode code 884 = .ok (.iaload, 1) := by decide +kernel
theorem d_Law_law_885 : decode code 885 = .ok (.invokevirtual 111, 3) := by decide +kernel
theorem d_Law_law_888 : decode code 888 = .ok (.istore 6, 2) := by decide +kernel
theorem d_Law_law_890 : decode code 890 = .ok (.aload_n 2, 1) := by decide +kernel
theorem d_Law_law_891 : decode code 891 = .ok (.invokevirtual 71, 3) := by decide +kernel
theorem d_Law_law_894 : decode code 894 = .ok (.iload 5, 2) := by decide +kernel
theorem d_Law_law_896 : decode code 896 = .ok (.if_icmp .eq 5, 3) := by decide +kernel
theorem d_Law_law_899 : decode code 899 = .ok (.iconst 0, 1) := by decide +kernel
theorem d_Law_law_900 : decode code 900 = .ok (.ireturn, 1) := by decide +kernel
theorem d_Law_law_901 : decode code 901 = .ok (.iload 5, 2) := by decide +kernel
theorem d_Law_law_903 : decode code 903 = .ok (.ifCond .ne 15, 3) := by decide +kernel
theorem d_Law_law_906 : decode code 906 = .ok (.aload_n 3, 1) := by decide +kernel
theorem d_Law_law_907 : decode code 907 = .ok (.iconst 0, 1) := by decide +kernel
theorem d_Law_law_908 : decode code 908 = .ok (.laload, 1) := by decide +kernel
theorem d_Law_law_909 : decode code 909 = .ok (.iload 6, 2) := by decide +kernel
theorem d_Law_law_911 : decode code 911 = .ok (.i2l, 1) := by decide +kernel
theorem d_Law_law_912 : decode code 912 = .ok (.lcmp, 1) := by decide +kernel
theorem d_Law_law_913 : decode code 913 = .ok (.ifCond .eq 5, 3) := by decide +kernel
theorem d_Law_law_916 : decode code 916 = .ok (.iconst 0, 1) := by decide +kernel
