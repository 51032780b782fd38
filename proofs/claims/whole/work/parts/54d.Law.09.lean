theorem d_Law_law_917 : decode code 917 = .ok (.ireturn, 1) := by decide +kernel
theorem d_Law_law_918 : decode code 918 = .ok (.goto 345, 3) := by decide +kernel
theorem d_Law_law_921 : decode code 921 = .ok (.aload_n 1, 1) := by decide +kernel
theorem d_Law_law_922 : decode code 922 = .ok (.aload_n 0, 1) := by decide +kernel
theorem d_Law_law_923 : decode code 923 = .ok (.iload 4, 2) := by decide +kernel
theorem d_Law_law_925 : decode code 925 = .ok (.iconst 1, 1) := by decide +kernel
theorem d_Law_law_926 : decode code 926 = .ok (.iadd, 1) := by decide +kernel
theorem d_Law_law_927 : decode code 927 = .ok (.iaload, 1) := by decide +kernel
theorem d_Law_law_928 : decode code 928 = .ok (.i2l, 1) := by decide +kernel
theorem d_Law_law_929 : decode code 929 = .ok (.bipush 32, 2) := by decide +kernel
theorem d_Law_law_931 : decode code 931 = .ok (.lshl, 1) := by decide +kernel
theorem d_Law_law_932 : decode code 932 = .ok (.aload_n 0, 1) := by decide +kernel
theorem d_Law_law_933 : decode code 933 = .ok (.iload 4, 2) := by decide +kernel
theorem d_Law_law_935 : decode code 935 = .ok (.iconst 2, 1) := by decide +kernel
theorem d_Law_law_936 : decode code 936 = .ok (.iadd, 1) := by decide +kernel
theorem d_Law_law_937 : decode code 937 = .ok (.iaload, 1) := by decide +kernel
theorem d_Law_law_938 : decode code 938 = .ok (.i2l, 1) := by decide +kernel
theorem d_Law_law_939 : decode code 939 = .ok (.ldc2_w 75, 3) := by decide +kernel
theorem d_Law_law_942 : decode code 942 = .ok (.land, 1) := by decide +kernel
theorem d_Law_law_943 : decode code 943 = .ok (.lor, 1) := by decide +kernel
theorem d_Law_law_944 : decode code 944 = .ok (.aload_n 0, 1) := by decide +kernel
theorem d_Law_law_945 : decode code 945 = .ok (.iload 4, 2) := by decide +kernel
theorem d_Law_law_947 : decode code 947 = .ok (.iconst 3, 1) := by decide +kernel
theorem d_Law_law_948 : decode code 948 = .ok (.iadd, 1) := by decide +kernel
theorem d_Law_law_949 : decode code 949 = .ok (.iaload, 1) := by decide +kernel
theorem d_Law_law_950 : decode code 950 = .ok (.i2l, 1) := by decide +kernel
theorem d_Law_law_951 : decode code 951 = .ok (.bipush 32, 2) := by decide +kernel
theorem d_Law_law_953 : decode code 953 = .ok (.lshl, 1) := by decide +kernel
theorem d_Law_law_954 : decode code 954 = .ok (.aload_n 0, 1) := by decide +kernel
theorem d_Law_law_955 : decode code 955 = .ok (.iload 4, 2) := by decide +kernel
theorem d_Law_law_957 : decode code 957 = .ok (.iconst 4, 1) := by decide +kernel
theorem d_Law_law_958 : decode code 958 = .ok (.iadd, 1) := by decide +kernel
theorem d_Law_law_959 : decode code 959 = .ok (.iaload, 1) := by decide +kernel
theorem d_Law_law_960 : decode code 960 = .ok (.i2l, 1) := by decide +kernel
theorem d_Law_law_961 : decode code 961 = .ok (.ldc2_w 75, 3) := by decide +kernel
theorem d_Law_law_964 : decode code 964 = .ok (.land, 1) := by decide +kernel
theorem d_Law_law_965 : decode code 965 = .ok (.lor, 1) := by decide +kernel
theorem d_Law_law_966 : decode code 966 = .ok (.aload_n 3, 1) := by decide +kernel
theorem d_Law_law_967 : decode code 967 = .ok (.invokestatic 112, 3) := by decide +kernel
theorem d_Law_law_970 : decode code 970 = .ok (.istore 5, 2) := by decide +kernel
theorem d_Law_law_972 : decode code 972 = .ok (.aload_n 2, 1) := by decide +kernel
theorem d_Law_law_973 : decode code 973 = .ok (.aload_n 0, 1) := by decide +kernel
theorem d_Law_law_974 : decode code 974 = .ok (.iload 4, 2) := by decide +kernel
theorem d_Law_law_976 : decode code 976 = .ok (.iconst 1, 1) := by decide +kernel
theorem d_Law_law_977 : decode code 977 = .ok (.iadd, 1) := by decide +kernel
theorem d_Law_law_978 : decode code 978 = .ok (.iaload, 1) := by decide +kernel
theorem d_Law_law_979 : decode code 979 = .ok (.i2l, 1) := by decide +kernel
theorem d_Law_law_980 : decode code 980 = .ok (.bipush 32, 2) := by decide +kernel
theorem d_Law_law_982 : decode code 982 = .ok (.lshl, 1) := by decide +kernel
theorem d_Law_law_983 : decode code 983 = .ok (.aload_n 0, 1) := by decide +kernel
theorem d_Law_law_984 : decode code 984 = .ok (.iload 4, 2) := by decide +kernel
theorem d_Law_law_986 : decode code 986 = .ok (.iconst 2, 1) := by decide +kernel
theorem d_Law_law_987 : decode code 987 = .ok (.iadd, 1) := by decide +kernel
theorem d_Law_law_988 : decode code 988 = .ok (.iaload, 1) := by decide +kernel
theorem d_Law_law_989 : decode code 989 = .ok (.i2l, 1) := by decide +kernel
theorem d_Law_law_990 : decode code 990 = .ok (.ldc2_w 75, 3) := by decide +kernel
theorem d_Law_law_993 : decode code 993 = .ok (.land, 1) := by decide +kernel
theorem d_Law_law_994 : decode code 994 = .ok (.lor, 1) := by decide +kernel
theorem d_Law_law_995 : decode code 995 = .ok (.aload_n 0, 1) := by decide +kernel
theorem d_Law_law_996 : decode code 996 = .ok (.iload 4, 2) := by decide +kernel
theorem d_Law_law_998 : decode code 998 = .ok (.iconst 3, 1) := by decide +kernel
theorem d_Law_law_999 : decode code 999 = .ok (.iadd, 1) := by decide +kernel
theorem d_Law_law_1000 : decode code 1000 = .ok (.iaload, 1) := by decide +kernel
theorem d_Law_law_1001 : decode code 1001 = .ok (.i2l, 1) := by decide +kernel
theorem d_Law_law_1002 : decode code 1002 = .ok (.bipush 32, 2) := by decide +kernel
theorem d_Law_law_1004 : decode code 1004 = .ok (.lshl, 1) := by decide +kernel
theorem d_Law_law_1005 : decode code 1005 = .ok (.aload_n 0, 1) := by decide +kernel
theorem d_Law_law_1006 : decode code 1006 = .ok (.iload 4, 2) := by decide +kernel
theorem d_Law_law_1008 : decode code 1008 = .ok (.iconst 4, 1) := by decide +kernel
theorem d_Law_law_1009 : decode code 1009 = .ok (.iadd, 1) := by decide +kernel
theorem d_Law_law_1010 : decode code 1010 = .ok (.iaload, 1) := by decide +kernel
theorem d_Law_law_1011 : decode code 1011 = .ok (.i2l, 1) := by decide +kernel
theorem d_Law_law_1012 : decode code 1012 = .ok (.ldc2_w 75, 3) := by decide +kernel
theorem d_Law_law_1015 : decode code 1015 = .ok (.land, 1) := by decide +kernel
theorem d_Law_law_1016 : decode code 1016 = .ok (.lor, 1) := by decide +kernel
theorem d_Law_law_1017 : decode code 1017 = .ok (.invokevirtual 115, 3) := by decide +kernel
theorem d_Law_law_1020 : decode code 1020 = .ok (.lstore 6, 2) := by decide +kernel
theorem d_Law_law_1022 : decode code 1022 = .ok (.aload_n 2, 1) := by decide +kernel
theorem d_Law_law_1023 : decode code 1023 = .ok (.invokevirtual 71, 3) := by decide +kernel
theorem d_Law_law_1026 : decode code 1026 = .ok (.iload 5, 2) := by decide +kernel
theorem d_Law_law_1028 : decode code 1028 = .ok (.if_icmp .eq 5, 3) := by decide +kernel
theorem d_Law_law_1031 : decode code 1031 = .ok (.iconst 0, 1) := by decide +kernel
theorem d_Law_law_1032 : decode code 1032 = .ok (.ireturn, 1) := by decide +kernel
theorem d_Law_law_1033 : decode code 1033 = .ok (.iload 5, 2) := by decide +kernel
theorem d_Law_law_1035 : decode code 1035 = .ok (.ifCond .ne 14, 3) := by decide +kernel
theorem d_Law_law_1038 : decode code 1038 = .ok (.aload_n 3, 1) := by decide +kernel
theorem d_Law_law_1039 : decode code 1039 = .ok (.iconst 0, 1) := by decide +kernel
theorem d_Law_law_1040 : decode code 1040 = .ok (.laload, 1) := by decide +kernel
theorem d_Law_law_1041 : decode code 1041 = .ok (.lload 6, 2) := by decide +kernel
theorem d_Law_law_1043 : decode code 1043 = .ok (.lcmp, 1) := by decide +kernel
theorem d_Law_law_1044 : decode code 1044 = .ok (.ifCond .eq 5, 3) := by decide +kernel
theorem d_Law_law_1047 : decode code 1047 = .ok (.iconst 0, 1) := by decide +kernel
theorem d_Law_law_1048 : decode code 1048 = .ok (.ireturn, 1) := by decide +kernel
theorem d_Law_law_1049 : decode code 1049 = .ok (.goto 214, 3) := by decide +kernel
theorem d_Law_law_1052 : decode code 1052 = .ok (.aload_n 1, 1) := by decide +kernel
theorem d_Law_law_1053 : decode code 1053 = .ok (.aload_n 0, 1) := by decide +kernel
theorem d_Law_law_1054 : decode code 1054 = .ok (.iload 4, 2) := by decide +kernel
theorem d_Law_law_1056 : decode code 1056 = .ok (.iconst 1, 1) := by decide +kernel
theorem d_Law_law_1057 : decode code 1057 = .ok (.iadd, 1) := by decide +kernel
theorem d_Law_law_1058 : decode code 1058 = .ok (.iaload, 1) := by decide +kernel
