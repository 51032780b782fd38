theorem d_Mod_times_316 : decode b_Mod_times 316 = .ok (.iconst 0, 1) := by decide +kernel
theorem d_Mod_times_317 : decode b_Mod_times 317 = .ok (.ireturn, 1) := by decide +kernel
theorem d_Mod_rest_0 : decode b_Mod_rest 0 = .ok (.aload_n 0, 1) := by decide +kernel
theorem d_Mod_rest_1 : decode b_Mod_rest 1 = .ok (.iconst 0, 1) := by decide +kernel
theorem d_Mod_rest_2 : decode b_Mod_rest 2 = .ok (.putfield 35, 3) := by decide +kernel
theorem d_Mod_rest_5 : decode b_Mod_rest 5 = .ok (.aload_n 0, 1) := by decide +kernel
theorem d_Mod_rest_6 : decode b_Mod_rest 6 = .ok (.getfield 85, 3) := by decide +kernel
theorem d_Mod_rest_9 : decode b_Mod_rest 9 = .ok (.lreturn, 1) := by decide +kernel
theorem d_Mod_compared_0 : decode b_Mod_compared 0 = .ok (.bipush 35, 2) := by decide +kernel
theorem d_Mod_compared_2 : decode b_Mod_compared 2 = .ok (.istore_n 3, 1) := by decide +kernel
theorem d_Mod_compared_3 : decode b_Mod_compared 3 = .ok (.iload_n 3, 1) := by decide +kernel
theorem d_Mod_compared_4 : decode b_Mod_compared 4 = .ok (.ifCond .lt 53, 3) := by decide +kernel
theorem d_Mod_compared_7 : decode b_Mod_compared 7 = .ok (.aload_n 0, 1) := by decide +kernel
theorem d_Mod_compared_8 : decode b_Mod_compared 8 = .ok (.getfield 16, 3) := by decide +kernel
theorem d_Mod_compared_11 : decode b_Mod_compared 11 = .ok (.iload_n 1, 1) := by decide +kernel
theorem d_Mod_compared_12 : decode b_Mod_compared 12 = .ok (.iload_n 3, 1) := by decide +kernel
theorem d_Mod_compared_13 : decode b_Mod_compared 13 = .ok (.iadd, 1) := by decide +kernel
theorem d_Mod_compared_14 : decode b_Mod_compared 14 = .ok (.iaload, 1) := by decide +kernel
theorem d_Mod_compared_15 : decode b_Mod_compared 15 = .ok (.aload_n 0, 1) := by decide +kernel
theorem d_Mod_compared_16 : decode b_Mod_compared 16 = .ok (.getfield 16, 3) := by decide +kernel
theorem d_Mod_compared_19 : decode b_Mod_compared 19 = .ok (.iload_n 2, 1) := by decide +kernel
theorem d_Mod_compared_20 : decode b_Mod_compared 20 = .ok (.iload_n 3, 1) := by decide +kernel
theorem d_Mod_compared_21 : decode b_Mod_compared 21 = .ok (.iadd, 1) := by decide +kernel
theorem d_Mod_compared_22 : decode b_Mod_compared 22 = .ok (.iaload, 1) := by decide +kernel
theorem d_Mod_compared_23 : decode b_Mod_compared 23 = .ok (.if_icmp .eq 28, 3) := by decide +kernel
theorem d_Mod_compared_26 : decode b_Mod_compared 26 = .ok (.aload_n 0, 1) := by decide +kernel
theorem d_Mod_compared_27 : decode b_Mod_compared 27 = .ok (.getfield 16, 3) := by decide +kernel
theorem d_Mod_compared_30 : decode b_Mod_compared 30 = .ok (.iload_n 1, 1) := by decide +kernel
theorem d_Mod_compared_31 : decode b_Mod_compared 31 = .ok (.iload_n 3, 1) := by decide +kernel
theorem d_Mod_compared_32 : decode b_Mod_compared 32 = .ok (.iadd, 1) := by decide +kernel
theorem d_Mod_compared_33 : decode b_Mod_compared 33 = .ok (.iaload, 1) := by decide +kernel
theorem d_Mod_compared_34 : decode b_Mod_compared 34 = .ok (.aload_n 0, 1) := by decide +kernel
theorem d_Mod_compared_35 : decode b_Mod_compared 35 = .ok (.getfield 16, 3) := by decide +kernel
theorem d_Mod_compared_38 : decode b_Mod_compared 38 = .ok (.iload_n 2, 1) := by decide +kernel
theorem d_Mod_compared_39 : decode b_Mod_compared 39 = .ok (.iload_n 3, 1) := by decide +kernel
theorem d_Mod_compared_40 : decode b_Mod_compared 40 = .ok (.iadd, 1) := by decide +kernel
theorem d_Mod_compared_41 : decode b_Mod_compared 41 = .ok (.iaload, 1) := by decide +kernel
theorem d_Mod_compared_42 : decode b_Mod_compared 42 = .ok (.if_icmp .ge 7, 3) := by decide +kernel
theorem d_Mod_compared_45 : decode b_Mod_compared 45 = .ok (.iconst (-1), 1) := by decide +kernel
theorem d_Mod_compared_46 : decode b_Mod_compared 46 = .ok (.goto 4, 3) := by decide +kernel
theorem d_Mod_compared_49 : decode b_Mod_compared 49 = .ok (.iconst 1, 1) := by decide +kernel
theorem d_Mod_compared_50 : decode b_Mod_compared 50 = .ok (.ireturn, 1) := by decide +kernel
theorem d_Mod_compared_51 : decode b_Mod_compared 51 = .ok (.iinc 3 (-1), 3) := by decide +kernel
theorem d_Mod_compared_54 : decode b_Mod_compared 54 = .ok (.goto (-51), 3) := by decide +kernel
theorem d_Mod_compared_57 : decode b_Mod_compared 57 = .ok (.iconst 0, 1) := by decide +kernel
theorem d_Mod_compared_58 : decode b_Mod_compared 58 = .ok (.ireturn, 1) := by decide +kernel
theorem d_Mod_sumUp_0 : decode b_Mod_sumUp 0 = .ok (.aload_n 0, 1) := by decide +kernel
theorem d_Mod_sumUp_1 : decode b_Mod_sumUp 1 = .ok (.invokevirtual 68, 3) := by decide +kernel
theorem d_Mod_sumUp_4 : decode b_Mod_sumUp 4 = .ok (.iconst 0, 1) := by decide +kernel
theorem d_Mod_sumUp_5 : decode b_Mod_sumUp 5 = .ok (.istore_n 3, 1) := by decide +kernel
theorem d_Mod_sumUp_6 : decode b_Mod_sumUp 6 = .ok (.iload_n 3, 1) := by decide +kernel
theorem d_Mod_sumUp_7 : decode b_Mod_sumUp 7 = .ok (.aload_n 0, 1) := by decide +kernel
theorem d_Mod_sumUp_8 : decode b_Mod_sumUp 8 = .ok (.getfield 13, 3) := by decide +kernel
theorem d_Mod_sumUp_11 : decode b_Mod_sumUp 11 = .ok (.iload_n 1, 1) := by decide +kernel
theorem d_Mod_sumUp_12 : decode b_Mod_sumUp 12 = .ok (.iaload, 1) := by decide +kernel
theorem d_Mod_sumUp_13 : decode b_Mod_sumUp 13 = .ok (.if_icmp .ge 35, 3) := by decide +kernel
theorem d_Mod_sumUp_16 : decode b_Mod_sumUp 16 = .ok (.iload_n 2, 1) := by decide +kernel
theorem d_Mod_sumUp_17 : decode b_Mod_sumUp 17 = .ok (.ifCond .ne 12, 3) := by decide +kernel
theorem d_Mod_sumUp_20 : decode b_Mod_sumUp 20 = .ok (.aload_n 0, 1) := by decide +kernel
theorem d_Mod_sumUp_21 : decode b_Mod_sumUp 21 = .ok (.getfield 31, 3) := by decide +kernel
theorem d_Mod_sumUp_24 : decode b_Mod_sumUp 24 = .ok (.iload_n 3, 1) := by decide +kernel
theorem d_Mod_sumUp_25 : decode b_Mod_sumUp 25 = .ok (.baload, 1) := by decide +kernel
theorem d_Mod_sumUp_26 : decode b_Mod_sumUp 26 = .ok (.ifCond .eq 16, 3) := by decide +kernel
theorem d_Mod_sumUp_29 : decode b_Mod_sumUp 29 = .ok (.aload_n 0, 1) := by decide +kernel
theorem d_Mod_sumUp_30 : decode b_Mod_sumUp 30 = .ok (.iload_n 1, 1) := by decide +kernel
theorem d_Mod_sumUp_31 : decode b_Mod_sumUp 31 = .ok (.aload_n 0, 1) := by decide +kernel
theorem d_Mod_sumUp_32 : decode b_Mod_sumUp 32 = .ok (.getfield 7, 3) := by decide +kernel
theorem d_Mod_sumUp_35 : decode b_Mod_sumUp 35 = .ok (.iload_n 1, 1) := by decide +kernel
theorem d_Mod_sumUp_36 : decode b_Mod_sumUp 36 = .ok (.iaload, 1) := by decide +kernel
theorem d_Mod_sumUp_37 : decode b_Mod_sumUp 37 = .ok (.iload_n 3, 1) := by decide +kernel
theorem d_Mod_sumUp_38 : decode b_Mod_sumUp 38 = .ok (.iadd, 1) := by decide +kernel
theorem d_Mod_sumUp_39 : decode b_Mod_sumUp 39 = .ok (.invokevirtual 71, 3) := by decide +kernel
theorem d_Mod_sumUp_42 : decode b_Mod_sumUp 42 = .ok (.iinc 3 1, 3) := by decide +kernel
theorem d_Mod_sumUp_45 : decode b_Mod_sumUp 45 = .ok (.goto (-39), 3) := by decide +kernel
theorem d_Mod_sumUp_48 : decode b_Mod_sumUp 48 = .ok (.return_, 1) := by decide +kernel
theorem d_Mod_grow_0 : decode b_Mod_grow 0 = .ok (.lconst 0, 1) := by decide +kernel
theorem d_Mod_grow_1 : decode b_Mod_grow 1 = .ok (.lstore_n 2, 1) := by decide +kernel
theorem d_Mod_grow_2 : decode b_Mod_grow 2 = .ok (.iconst 0, 1) := by decide +kernel
theorem d_Mod_grow_3 : decode b_Mod_grow 3 = .ok (.istore 4, 2) := by decide +kernel
theorem d_Mod_grow_5 : decode b_Mod_grow 5 = .ok (.iload 4, 2) := by decide +kernel
theorem d_Mod_grow_7 : decode b_Mod_grow 7 = .ok (.bipush 80, 2) := by decide +kernel
theorem d_Mod_grow_9 : decode b_Mod_grow 9 = .ok (.if_icmp .ge 45, 3) := by decide +kernel
theorem d_Mod_grow_12 : decode b_Mod_grow 12 = .ok (.aload_n 0, 1) := by decide +kernel
theorem d_Mod_grow_13 : decode b_Mod_grow 13 = .ok (.getfield 25, 3) := by decide +kernel
theorem d_Mod_grow_16 : decode b_Mod_grow 16 = .ok (.iload 4, 2) := by decide +kernel
theorem d_Mod_grow_18 : decode b_Mod_grow 18 = .ok (.iaload, 1) := by decide +kernel
theorem d_Mod_grow_19 : decode b_Mod_grow 19 = .ok (.i2l, 1) := by decide +kernel
theorem d_Mod_grow_20 : decode b_Mod_grow 20 = .ok (.iload_n 1, 1) := by decide +kernel
theorem d_Mod_grow_21 : decode b_Mod_grow 21 = .ok (.i2l, 1) := by decide +kernel
theorem d_Mod_grow_22 : decode b_Mod_grow 22 = .ok (.lmul, 1) := by decide +kernel
theorem d_Mod_grow_23 : decode b_Mod_grow 23 = .ok (.lload_n 2, 1) := by decide +kernel
theorem d_Mod_grow_24 : decode b_Mod_grow 24 = .ok (.ladd, 1) := by decide +kernel
theorem d_Mod_grow_25 : decode b_Mod_grow 25 = .ok (.lstore 5, 2) := by decide +kernel
theorem d_Mod_grow_27 : decode b_Mod_grow 27 = .ok (.aload_n 0, 1) := by decide +kernel
theorem d_Mod_grow_28 : decode b_Mod_grow 28 = .ok (.getfield 25, 3) := by decide +kernel
theorem d_Mod_grow_31 : decode b_Mod_grow 31 = .ok (.iload 4, 2) := by decide +kernel
theorem d_Mod_grow_33 : decode b_Mod_grow 33 = .ok (.lload 5, 2) := by decide +kernel
theorem d_Mod_grow_35 : decode b_Mod_grow 35 = .ok (.ldc2_w 62, 3) := by decide +kernel
theorem d_Mod_grow_38 : decode b_Mod_grow 38 = .ok (.lrem, 1) := by decide +kernel
theorem d_Mod_grow_39 : decode b_Mod_grow 39 = .ok (.l2i, 1) := by decide +kernel
theorem d_Mod_grow_40 : decode b_Mod_grow 40 = .ok (.iastore, 1) := by decide +kernel
theorem d_Mod_grow_41 : decode b_Mod_grow 41 = .ok (.lload 5, 2) := by decide +kernel
theorem d_Mod_grow_43 : decode b_Mod_grow 43 = .ok (.ldc2_w 62, 3) := by decide +kernel
theorem d_Mod_grow_46 : decode b_Mod_grow 46 = .ok (.ldiv, 1) := by decide +kernel
theorem d_Mod_grow_47 : decode b_Mod_grow 47 = .ok (.lstore_n 2, 1) := by decide +kernel
theorem d_Mod_grow_48 : decode b_Mod_grow 48 = .ok (.iinc 4 1, 3) := by decide +kernel
theorem d_Mod_grow_51 : decode b_Mod_grow 51 = .ok (.goto (-46), 3) := by decide +kernel
theorem d_Mod_grow_54 : decode b_Mod_grow 54 = .ok (.return_, 1) := by decide +kernel
theorem d_Mod_enough_0 : decode b_Mod_enough 0 = .ok (.aload_n 0, 1) := by decide +kernel
theorem d_Mod_enough_1 : decode b_Mod_enough 1 = .ok (.iload_n 1, 1) := by decide +kernel
theorem d_Mod_enough_2 : decode b_Mod_enough 2 = .ok (.iconst 1, 1) := by decide +kernel
theorem d_Mod_enough_3 : decode b_Mod_enough 3 = .ok (.invokevirtual 89, 3) := by decide +kernel
theorem d_Mod_enough_6 : decode b_Mod_enough 6 = .ok (.aload_n 0, 1) := by decide +kernel
theorem d_Mod_enough_7 : decode b_Mod_enough 7 = .ok (.iload_n 2, 1) := by decide +kernel
theorem d_Mod_enough_8 : decode b_Mod_enough 8 = .ok (.invokevirtual 93, 3) := by decide +kernel
theorem d_Mod_enough_11 : decode b_Mod_enough 11 = .ok (.iconst 0, 1) := by decide +kernel
theorem d_Mod_enough_12 : decode b_Mod_enough 12 = .ok (.istore 4, 2) := by decide +kernel
theorem d_Mod_enough_14 : decode b_Mod_enough 14 = .ok (.iload 4, 2) := by decide +kernel
theorem d_Mod_enough_16 : decode b_Mod_enough 16 = .ok (.bipush 80, 2) := by decide +kernel
theorem d_Mod_enough_18 : decode b_Mod_enough 18 = .ok (.if_icmp .ge 23, 3) := by decide +kernel
theorem d_Mod_enough_21 : decode b_Mod_enough 21 = .ok (.aload_n 0, 1) := by decide +kernel
theorem d_Mod_enough_22 : decode b_Mod_enough 22 = .ok (.getfield 28, 3) := by decide +kernel
theorem d_Mod_enough_25 : decode b_Mod_enough 25 = .ok (.iload 4, 2) := by decide +kernel
theorem d_Mod_enough_27 : decode b_Mod_enough 27 = .ok (.aload_n 0, 1) := by decide +kernel
theorem d_Mod_enough_28 : decode b_Mod_enough 28 = .ok (.getfield 25, 3) := by decide +kernel
theorem d_Mod_enough_31 : decode b_Mod_enough 31 = .ok (.iload 4, 2) := by decide +kernel
theorem d_Mod_enough_33 : decode b_Mod_enough 33 = .ok (.iaload, 1) := by decide +kernel
theorem d_Mod_enough_34 : decode b_Mod_enough 34 = .ok (.iastore, 1) := by decide +kernel
theorem d_Mod_enough_35 : decode b_Mod_enough 35 = .ok (.iinc 4 1, 3) := by decide +kernel
theorem d_Mod_enough_38 : decode b_Mod_enough 38 = .ok (.goto (-24), 3) := by decide +kernel
theorem d_Mod_enough_41 : decode b_Mod_enough 41 = .ok (.aload_n 0, 1) := by decide +kernel
theorem d_Mod_enough_42 : decode b_Mod_enough 42 = .ok (.iload_n 1, 1) := by decide +kernel
theorem d_Mod_enough_43 : decode b_Mod_enough 43 = .ok (.iconst 0, 1) := by decide +kernel
theorem d_Mod_enough_44 : decode b_Mod_enough 44 = .ok (.invokevirtual 89, 3) := by decide +kernel
theorem d_Mod_enough_47 : decode b_Mod_enough 47 = .ok (.aload_n 0, 1) := by decide +kernel
theorem d_Mod_enough_48 : decode b_Mod_enough 48 = .ok (.iload_n 3, 1) := by decide +kernel
theorem d_Mod_enough_49 : decode b_Mod_enough 49 = .ok (.invokevirtual 93, 3) := by decide +kernel
theorem d_Mod_enough_52 : decode b_Mod_enough 52 = .ok (.bipush 79, 2) := by decide +kernel
theorem d_Mod_enough_54 : decode b_Mod_enough 54 = .ok (.istore 4, 2) := by decide +kernel
theorem d_Mod_enough_56 : decode b_Mod_enough 56 = .ok (.iload 4, 2) := by decide +kernel
theorem d_Mod_enough_58 : decode b_Mod_enough 58 = .ok (.ifCond .lt 49, 3) := by decide +kernel
theorem d_Mod_enough_61 : decode b_Mod_enough 61 = .ok (.aload_n 0, 1) := by decide +kernel
theorem d_Mod_enough_62 : decode b_Mod_enough 62 = .ok (.getfield 25, 3) := by decide +kernel
theorem d_Mod_enough_65 : decode b_Mod_enough 65 = .ok (.iload 4, 2) := by decide +kernel
theorem d_Mod_enough_67 : decode b_Mod_enough 67 = .ok (.iaload, 1) := by decide +kernel
theorem d_Mod_enough_68 : decode b_Mod_enough 68 = .ok (.aload_n 0, 1) := by decide +kernel
theorem d_Mod_enough_69 : decode b_Mod_enough 69 = .ok (.getfield 28, 3) := by decide +kernel
theorem d_Mod_enough_72 : decode b_Mod_enough 72 = .ok (.iload 4, 2) := by decide +kernel
theorem d_Mod_enough_74 : decode b_Mod_enough 74 = .ok (.iaload, 1) := by decide +kernel
theorem d_Mod_enough_75 : decode b_Mod_enough 75 = .ok (.if_icmp .eq 26, 3) := by decide +kernel
theorem d_Mod_enough_78 : decode b_Mod_enough 78 = .ok (.aload_n 0, 1) := by decide +kernel
theorem d_Mod_enough_79 : decode b_Mod_enough 79 = .ok (.getfield 25, 3) := by decide +kernel
theorem d_Mod_enough_82 : decode b_Mod_enough 82 = .ok (.iload 4, 2) := by decide +kernel
theorem d_Mod_enough_84 : decode b_Mod_enough 84 = .ok (.iaload, 1) := by decide +kernel
theorem d_Mod_enough_85 : decode b_Mod_enough 85 = .ok (.aload_n 0, 1) := by decide +kernel
theorem d_Mod_enough_86 : decode b_Mod_enough 86 = .ok (.getfield 28, 3) := by decide +kernel
theorem d_Mod_enough_89 : decode b_Mod_enough 89 = .ok (.iload 4, 2) := by decide +kernel
theorem d_Mod_enough_91 : decode b_Mod_enough 91 = .ok (.iaload, 1) := by decide +kernel
theorem d_Mod_enough_92 : decode b_Mod_enough 92 = .ok (.if_icmp .le 7, 3) := by decide +kernel
theorem d_Mod_enough_95 : decode b_Mod_enough 95 = .ok (.iconst 1, 1) := by decide +kernel
theorem d_Mod_enough_96 : decode b_Mod_enough 96 = .ok (.goto 4, 3) := by decide +kernel
theorem d_Mod_enough_99 : decode b_Mod_enough 99 = .ok (.iconst 0, 1) := by decide +kernel
theorem d_Mod_enough_100 : decode b_Mod_enough 100 = .ok (.ireturn, 1) := by decide +kernel
theorem d_Mod_enough_101 : decode b_Mod_enough 101 = .ok (.iinc 4 (-1), 3) := by decide +kernel
theorem d_Mod_enough_104 : decode b_Mod_enough 104 = .ok (.goto (-48), 3) := by decide +kernel
theorem d_Mod_enough_107 : decode b_Mod_enough 107 = .ok (.iconst 1, 1) := by decide +kernel
theorem d_Mod_enough_108 : decode b_Mod_enough 108 = .ok (.ireturn, 1) := by decide +kernel
theorem d_Mod_isNothing_0 : decode b_Mod_isNothing 0 = .ok (.iconst 1, 1) := by decide +kernel
theorem d_Mod_isNothing_1 : decode b_Mod_isNothing 1 = .ok (.istore_n 2, 1) := by decide +kernel
theorem d_Mod_isNothing_2 : decode b_Mod_isNothing 2 = .ok (.iconst 0, 1) := by decide +kernel
theorem d_Mod_isNothing_3 : decode b_Mod_isNothing 3 = .ok (.istore_n 3, 1) := by decide +kernel
theorem d_Mod_isNothing_4 : decode b_Mod_isNothing 4 = .ok (.iload_n 3, 1) := by decide +kernel
theorem d_Mod_isNothing_5 : decode b_Mod_isNothing 5 = .ok (.bipush 36, 2) := by decide +kernel
theorem d_Mod_isNothing_7 : decode b_Mod_isNothing 7 = .ok (.aload_n 0, 1) := by decide +kernel
theorem d_Mod_isNothing_8 : decode b_Mod_isNothing 8 = .ok (.getfield 13, 3) := by decide +kernel
theorem d_Mod_isNothing_11 : decode b_Mod_isNothing 11 = .ok (.iload_n 1, 1) := by decide +kernel
theorem d_Mod_isNothing_12 : decode b_Mod_isNothing 12 = .ok (.iaload, 1) := by decide +kernel
theorem d_Mod_isNothing_13 : decode b_Mod_isNothing 13 = .ok (.imul, 1) := by decide +kernel
theorem d_Mod_isNothing_14 : decode b_Mod_isNothing 14 = .ok (.if_icmp .ge 34, 3) := by decide +kernel
theorem d_Mod_isNothing_17 : decode b_Mod_isNothing 17 = .ok (.iload_n 2, 1) := by decide +kernel
theorem d_Mod_isNothing_18 : decode b_Mod_isNothing 18 = .ok (.ifCond .eq 22, 3) := by decide +kernel
theorem d_Mod_isNothing_21 : decode b_Mod_isNothing 21 = .ok (.aload_n 0, 1) := by decide +kernel
theorem d_Mod_isNothing_22 : decode b_Mod_isNothing 22 = .ok (.getfield 16, 3) := by decide +kernel
theorem d_Mod_isNothing_25 : decode b_Mod_isNothing 25 = .ok (.sipush 1728, 3) := by decide +kernel
theorem d_Mod_isNothing_28 : decode b_Mod_isNothing 28 = .ok (.iload_n 1, 1) := by decide +kernel
theorem d_Mod_isNothing_29 : decode b_Mod_isNothing 29 = .ok (.imul, 1) := by decide +kernel
theorem d_Mod_isNothing_30 : decode b_Mod_isNothing 30 = .ok (.iload_n 3, 1) := by decide +kernel
theorem d_Mod_isNothing_31 : decode b_Mod_isNothing 31 = .ok (.iadd, 1) := by decide +kernel
theorem d_Mod_isNothing_32 : decode b_Mod_isNothing 32 = .ok (.iaload, 1) := by decide +kernel
theorem d_Mod_isNothing_33 : decode b_Mod_isNothing 33 = .ok (.ifCond .ne 7, 3) := by decide +kernel
theorem d_Mod_isNothing_36 : decode b_Mod_isNothing 36 = .ok (.iconst 1, 1) := by decide +kernel
theorem d_Mod_isNothing_37 : decode b_Mod_isNothing 37 = .ok (.goto 4, 3) := by decide +kernel
theorem d_Mod_isNothing_40 : decode b_Mod_isNothing 40 = .ok (.iconst 0, 1) := by decide +kernel
theorem d_Mod_isNothing_41 : decode b_Mod_isNothing 41 = .ok (.istore_n 2, 1) := by decide +kernel
theorem d_Mod_isNothing_42 : decode b_Mod_isNothing 42 = .ok (.iinc 3 1, 3) := by decide +kernel
theorem d_Mod_isNothing_45 : decode b_Mod_isNothing 45 = .ok (.goto (-41), 3) := by decide +kernel
theorem d_Mod_isNothing_48 : decode b_Mod_isNothing 48 = .ok (.iload_n 2, 1) := by decide +kernel
theorem d_Mod_isNothing_49 : decode b_Mod_isNothing 49 = .ok (.ireturn, 1) := by decide +kernel
theorem d_Mod_least_0 : decode b_Mod_least 0 = .ok (.aload_n 0, 1) := by decide +kernel
theorem d_Mod_least_1 : decode b_Mod_least 1 = .ok (.aload_n 0, 1) := by decide +kernel
theorem d_Mod_least_2 : decode b_Mod_least 2 = .ok (.iload_n 1, 1) := by decide +kernel
theorem d_Mod_least_3 : decode b_Mod_least 3 = .ok (.invokevirtual 42, 3) := by decide +kernel
theorem d_Mod_least_6 : decode b_Mod_least 6 = .ok (.iload_n 3, 1) := by decide +kernel
theorem d_Mod_least_7 : decode b_Mod_least 7 = .ok (.iconst 1, 1) := by decide +kernel
theorem d_Mod_least_8 : decode b_Mod_least 8 = .ok (.ldc 97, 2) := by decide +kernel
theorem d_Mod_least_10 : decode b_Mod_least 10 = .ok (.invokestatic 46, 3) := by decide +kernel
theorem d_Mod_least_13 : decode b_Mod_least 13 = .ok (.ifCond .eq 16, 3) := by decide +kernel
theorem d_Mod_least_16 : decode b_Mod_least 16 = .ok (.iload_n 2, 1) := by decide +kernel
theorem d_Mod_least_17 : decode b_Mod_least 17 = .ok (.ifCond .lt 12, 3) := by decide +kernel
theorem d_Mod_least_20 : decode b_Mod_least 20 = .ok (.iload_n 2, 1) := by decide +kernel
theorem d_Mod_least_21 : decode b_Mod_least 21 = .ok (.iload_n 3, 1) := by decide +kernel
theorem d_Mod_least_22 : decode b_Mod_least 22 = .ok (.if_icmp .gt 7, 3) := by decide +kernel
theorem d_Mod_least_25 : decode b_Mod_least 25 = .ok (.iconst 1, 1) := by decide +kernel
theorem d_Mod_least_26 : decode b_Mod_least 26 = .ok (.goto 4, 3) := by decide +kernel
theorem d_Mod_least_29 : decode b_Mod_least 29 = .ok (.iconst 0, 1) := by decide +kernel
theorem d_Mod_least_30 : decode b_Mod_least 30 = .ok (.aload_n 0, 1) := by decide +kernel
theorem d_Mod_least_31 : decode b_Mod_least 31 = .ok (.iload_n 1, 1) := by decide +kernel
theorem d_Mod_least_32 : decode b_Mod_least 32 = .ok (.invokevirtual 42, 3) := by decide +kernel
theorem d_Mod_least_35 : decode b_Mod_least 35 = .ok (.ifCond .eq 15, 3) := by decide +kernel
theorem d_Mod_least_38 : decode b_Mod_least 38 = .ok (.aload_n 0, 1) := by decide +kernel
theorem d_Mod_least_39 : decode b_Mod_least 39 = .ok (.iload_n 1, 1) := by decide +kernel
theorem d_Mod_least_40 : decode b_Mod_least 40 = .ok (.invokevirtual 98, 3) := by decide +kernel
theorem d_Mod_least_43 : decode b_Mod_least 43 = .ok (.ifCond .ne 7, 3) := by decide +kernel
theorem d_Mod_least_46 : decode b_Mod_least 46 = .ok (.iconst 1, 1) := by decide +kernel
theorem d_Mod_least_47 : decode b_Mod_least 47 = .ok (.goto 4, 3) := by decide +kernel
theorem d_Mod_least_50 : decode b_Mod_least 50 = .ok (.iconst 0, 1) := by decide +kernel
theorem d_Mod_least_51 : decode b_Mod_least 51 = .ok (.iconst 1, 1) := by decide +kernel
theorem d_Mod_least_52 : decode b_Mod_least 52 = .ok (.invokevirtual 50, 3) := by decide +kernel
theorem d_Mod_least_55 : decode b_Mod_least 55 = .ok (.ifCond .ne 5, 3) := by decide +kernel
theorem d_Mod_least_58 : decode b_Mod_least 58 = .ok (.iconst 0, 1) := by decide +kernel
theorem d_Mod_least_59 : decode b_Mod_least 59 = .ok (.ireturn, 1) := by decide +kernel
theorem d_Mod_least_60 : decode b_Mod_least 60 = .ok (.iconst 0, 1) := by decide +kernel
theorem d_Mod_least_61 : decode b_Mod_least 61 = .ok (.istore 4, 2) := by decide +kernel
theorem d_Mod_least_63 : decode b_Mod_least 63 = .ok (.iload 4, 2) := by decide +kernel
theorem d_Mod_least_65 : decode b_Mod_least 65 = .ok (.bipush 48, 2) := by decide +kernel
theorem d_Mod_least_67 : decode b_Mod_least 67 = .ok (.if_icmp .ge 17, 3) := by decide +kernel
theorem d_Mod_least_70 : decode b_Mod_least 70 = .ok (.aload_n 0, 1) := by decide +kernel
theorem d_Mod_least_71 : decode b_Mod_least 71 = .ok (.getfield 31, 3) := by decide +kernel
theorem d_Mod_least_74 : decode b_Mod_least 74 = .ok (.iload 4, 2) := by decide +kernel
theorem d_Mod_least_76 : decode b_Mod_least 76 = .ok (.iconst 0, 1) := by decide +kernel
theorem d_Mod_least_77 : decode b_Mod_least 77 = .ok (.bastore, 1) := by decide +kernel
theorem d_Mod_least_78 : decode b_Mod_least 78 = .ok (.iinc 4 1, 3) := by decide +kernel
theorem d_Mod_least_81 : decode b_Mod_least 81 = .ok (.goto (-18), 3) := by decide +kernel
theorem d_Mod_least_84 : decode b_Mod_least 84 = .ok (.aload_n 0, 1) := by decide +kernel
theorem d_Mod_least_85 : decode b_Mod_least 85 = .ok (.iload_n 1, 1) := by decide +kernel
theorem d_Mod_least_86 : decode b_Mod_least 86 = .ok (.iload_n 2, 1) := by decide +kernel
theorem d_Mod_least_87 : decode b_Mod_least 87 = .ok (.iload_n 3, 1) := by decide +kernel
theorem d_Mod_least_88 : decode b_Mod_least 88 = .ok (.invokevirtual 101, 3) := by decide +kernel
theorem d_Mod_least_91 : decode b_Mod_least 91 = .ok (.ifCond .ne 101, 3) := by decide +kernel
theorem d_Mod_least_94 : decode b_Mod_least 94 = .ok (.iconst (-1), 1) := by decide +kernel
theorem d_Mod_least_95 : decode b_Mod_least 95 = .ok (.istore 4, 2) := by decide +kernel
theorem d_Mod_least_97 : decode b_Mod_least 97 = .ok (.iconst 0, 1) := by decide +kernel
theorem d_Mod_least_98 : decode b_Mod_least 98 = .ok (.istore 5, 2) := by decide +kernel
theorem d_Mod_least_100 : decode b_Mod_least 100 = .ok (.iload 5, 2) := by decide +kernel
theorem d_Mod_least_102 : decode b_Mod_least 102 = .ok (.aload_n 0, 1) := by decide +kernel
theorem d_Mod_least_103 : decode b_Mod_least 103 = .ok (.getfield 13, 3) := by decide +kernel
theorem d_Mod_least_106 : decode b_Mod_least 106 = .ok (.iload_n 1, 1) := by decide +kernel
theorem d_Mod_least_107 : decode b_Mod_least 107 = .ok (.iaload, 1) := by decide +kernel
theorem d_Mod_least_108 : decode b_Mod_least 108 = .ok (.if_icmp .ge 73, 3) := by decide +kernel
theorem d_Mod_least_111 : decode b_Mod_least 111 = .ok (.aload_n 0, 1) := by decide +kernel
theorem d_Mod_least_112 : decode b_Mod_least 112 = .ok (.getfield 31, 3) := by decide +kernel
theorem d_Mod_least_115 : decode b_Mod_least 115 = .ok (.iload 5, 2) := by decide +kernel
theorem d_Mod_least_117 : decode b_Mod_least 117 = .ok (.baload, 1) := by decide +kernel
theorem d_Mod_least_118 : decode b_Mod_least 118 = .ok (.ifCond .ne 40, 3) := by decide +kernel
theorem d_Mod_least_121 : decode b_Mod_least 121 = .ok (.iload 4, 2) := by decide +kernel
theorem d_Mod_least_123 : decode b_Mod_least 123 = .ok (.iconst (-1), 1) := by decide +kernel
theorem d_Mod_least_124 : decode b_Mod_least 124 = .ok (.if_icmp .eq 30, 3) := by decide +kernel
theorem d_Mod_least_127 : decode b_Mod_least 127 = .ok (.aload_n 0, 1) := by decide +kernel
theorem d_Mod_least_128 : decode b_Mod_least 128 = .ok (.bipush 36, 2) := by decide +kernel
theorem d_Mod_least_130 : decode b_Mod_least 130 = .ok (.bipush 48, 2) := by decide +kernel
theorem d_Mod_least_132 : decode b_Mod_least 132 = .ok (.iload_n 1, 1) := by decide +kernel
theorem d_Mod_least_133 : decode b_Mod_least 133 = .ok (.imul, 1) := by decide +kernel
theorem d_Mod_least_134 : decode b_Mod_least 134 = .ok (.iload 5, 2) := by decide +kernel
theorem d_Mod_least_136 : decode b_Mod_least 136 = .ok (.iadd, 1) := by decide +kernel
theorem d_Mod_least_137 : decode b_Mod_least 137 = .ok (.imul, 1) := by decide +kernel
theorem d_Mod_least_138 : decode b_Mod_least 138 = .ok (.bipush 36, 2) := by decide +kernel
theorem d_Mod_least_140 : decode b_Mod_least 140 = .ok (.bipush 48, 2) := by decide +kernel
theorem d_Mod_least_142 : decode b_Mod_least 142 = .ok (.iload_n 1, 1) := by decide +kernel
theorem d_Mod_least_143 : decode b_Mod_least 143 = .ok (.imul, 1) := by decide +kernel
theorem d_Mod_least_144 : decode b_Mod_least 144 = .ok (.iload 4, 2) := by decide +kernel
theorem d_Mod_least_146 : decode b_Mod_least 146 = .ok (.iadd, 1) := by decide +kernel
theorem d_Mod_least_147 : decode b_Mod_least 147 = .ok (.imul, 1) := by decide +kernel
theorem d_Mod_least_148 : decode b_Mod_least 148 = .ok (.invokevirtual 104, 3) := by decide +kernel
theorem d_Mod_least_151 : decode b_Mod_least 151 = .ok (.ifCond .le 7, 3) := by decide +kernel
theorem d_Mod_least_154 : decode b_Mod_least 154 = .ok (.iconst 1, 1) := by decide +kernel
theorem d_Mod_least_155 : decode b_Mod_least 155 = .ok (.goto 4, 3) := by decide +kernel
theorem d_Mod_least_158 : decode b_Mod_least 158 = .ok (.iconst 0, 1) := by decide +kernel
theorem d_Mod_least_159 : decode b_Mod_least 159 = .ok (.istore 6, 2) := by decide +kernel
theorem d_Mod_least_161 : decode b_Mod_least 161 = .ok (.iload 6, 2) := by decide +kernel
theorem d_Mod_least_163 : decode b_Mod_least 163 = .ok (.ifCond .eq 8, 3) := by decide +kernel
theorem d_Mod_least_166 : decode b_Mod_least 166 = .ok (.iload 5, 2) := by decide +kernel
theorem d_Mod_least_168 : decode b_Mod_least 168 = .ok (.goto 5, 3) := by decide +kernel
theorem d_Mod_least_171 : decode b_Mod_least 171 = .ok (.iload 4, 2) := by decide +kernel
theorem d_Mod_least_173 : decode b_Mod_least 173 = .ok (.istore 4, 2) := by decide +kernel
theorem d_Mod_least_175 : decode b_Mod_least 175 = .ok (.iinc 5 1, 3) := by decide +kernel
theorem d_Mod_least_178 : decode b_Mod_least 178 = .ok (.goto (-78), 3) := by decide +kernel
theorem d_Mod_least_181 : decode b_Mod_least 181 = .ok (.aload_n 0, 1) := by decide +kernel
theorem d_Mod_least_182 : decode b_Mod_least 182 = .ok (.getfield 31, 3) := by decide +kernel
theorem d_Mod_least_185 : decode b_Mod_least 185 = .ok (.iload 4, 2) := by decide +kernel
theorem d_Mod_least_187 : decode b_Mod_least 187 = .ok (.iconst 1, 1) := by decide +kernel
theorem d_Mod_least_188 : decode b_Mod_least 188 = .ok (.bastore, 1) := by decide +kernel
theorem d_Mod_least_189 : decode b_Mod_least 189 = .ok (.goto (-105), 3) := by decide +kernel
theorem d_Mod_least_192 : decode b_Mod_least 192 = .ok (.aload_n 0, 1) := by decide +kernel
theorem d_Mod_least_193 : decode b_Mod_least 193 = .ok (.iconst 0, 1) := by decide +kernel
theorem d_Mod_least_194 : decode b_Mod_least 194 = .ok (.putfield 107, 3) := by decide +kernel
theorem d_Mod_least_197 : decode b_Mod_least 197 = .ok (.iconst 0, 1) := by decide +kernel
theorem d_Mod_least_198 : decode b_Mod_least 198 = .ok (.istore 4, 2) := by decide +kernel
theorem d_Mod_least_200 : decode b_Mod_least 200 = .ok (.iload 4, 2) := by decide +kernel
theorem d_Mod_least_202 : decode b_Mod_least 202 = .ok (.aload_n 0, 1) := by decide +kernel
theorem d_Mod_least_203 : decode b_Mod_least 203 = .ok (.getfield 13, 3) := by decide +kernel
theorem d_Mod_least_206 : decode b_Mod_least 206 = .ok (.iload_n 1, 1) := by decide +kernel
theorem d_Mod_least_207 : decode b_Mod_least 207 = .ok (.iaload, 1) := by decide +kernel
theorem d_Mod_least_208 : decode b_Mod_least 208 = .ok (.if_icmp .ge 94, 3) := by decide +kernel
theorem d_Mod_least_211 : decode b_Mod_least 211 = .ok (.aload_n 0, 1) := by decide +kernel
theorem d_Mod_least_212 : decode b_Mod_least 212 = .ok (.getfield 31, 3) := by decide +kernel
theorem d_Mod_least_215 : decode b_Mod_least 215 = .ok (.iload 4, 2) := by decide +kernel
theorem d_Mod_least_217 : decode b_Mod_least 217 = .ok (.baload, 1) := by decide +kernel
theorem d_Mod_least_218 : decode b_Mod_least 218 = .ok (.ifCond .eq 48, 3) := by decide +kernel
theorem d_Mod_least_221 : decode b_Mod_least 221 = .ok (.iload 4, 2) := by decide +kernel
theorem d_Mod_least_223 : decode b_Mod_least 223 = .ok (.ifCond .eq 15, 3) := by decide +kernel
theorem d_Mod_least_226 : decode b_Mod_least 226 = .ok (.aload_n 0, 1) := by decide +kernel
theorem d_Mod_least_227 : decode b_Mod_least 227 = .ok (.getfield 31, 3) := by decide +kernel
theorem d_Mod_least_230 : decode b_Mod_least 230 = .ok (.iload 4, 2) := by decide +kernel
theorem d_Mod_least_232 : decode b_Mod_least 232 = .ok (.iconst 1, 1) := by decide +kernel
theorem d_Mod_least_233 : decode b_Mod_least 233 = .ok (.isub, 1) := by decide +kernel
theorem d_Mod_least_234 : decode b_Mod_least 234 = .ok (.baload, 1) := by decide +kernel
theorem d_Mod_least_235 : decode b_Mod_least 235 = .ok (.ifCond .ne 31, 3) := by decide +kernel
theorem d_Mod_least_238 : decode b_Mod_least 238 = .ok (.aload_n 0, 1) := by decide +kernel
theorem d_Mod_least_239 : decode b_Mod_least 239 = .ok (.getfield 19, 3) := by decide +kernel
theorem d_Mod_least_242 : decode b_Mod_least 242 = .ok (.aload_n 0, 1) := by decide +kernel
theorem d_Mod_least_243 : decode b_Mod_least 243 = .ok (.getfield 107, 3) := by decide +kernel
theorem d_Mod_least_246 : decode b_Mod_least 246 = .ok (.aload_n 0, 1) := by decide +kernel
theorem d_Mod_least_247 : decode b_Mod_least 247 = .ok (.getfield 7, 3) := by decide +kernel
theorem d_Mod_least_250 : decode b_Mod_least 250 = .ok (.iload_n 1, 1) := by decide +kernel
theorem d_Mod_least_251 : decode b_Mod_least 251 = .ok (.iaload, 1) := by decide +kernel
theorem d_Mod_least_252 : decode b_Mod_least 252 = .ok (.iload 4, 2) := by decide +kernel
theorem d_Mod_least_254 : decode b_Mod_least 254 = .ok (.iadd, 1) := by decide +kernel
theorem d_Mod_least_255 : decode b_Mod_least 255 = .ok (.iastore, 1) := by decide +kernel
theorem d_Mod_least_256 : decode b_Mod_least 256 = .ok (.aload_n 0, 1) := by decide +kernel
theorem d_Mod_least_257 : decode b_Mod_least 257 = .ok (.dup, 1) := by decide +kernel
theorem d_Mod_least_258 : decode b_Mod_least 258 = .ok (.getfield 107, 3) := by decide +kernel
theorem d_Mod_least_261 : decode b_Mod_least 261 = .ok (.iconst 1, 1) := by decide +kernel
theorem d_Mod_least_262 : decode b_Mod_least 262 = .ok (.iadd, 1) := by decide +kernel
theorem d_Mod_least_263 : decode b_Mod_least 263 = .ok (.putfield 107, 3) := by decide +kernel
theorem d_Mod_least_266 : decode b_Mod_least 266 = .ok (.aload_n 0, 1) := by decide +kernel
theorem d_Mod_least_267 : decode b_Mod_least 267 = .ok (.getfield 31, 3) := by decide +kernel
theorem d_Mod_least_270 : decode b_Mod_least 270 = .ok (.iload 4, 2) := by decide +kernel
theorem d_Mod_least_272 : decode b_Mod_least 272 = .ok (.baload, 1) := by decide +kernel
theorem d_Mod_least_273 : decode b_Mod_least 273 = .ok (.ifCond .eq 23, 3) := by decide +kernel
theorem d_Mod_least_276 : decode b_Mod_least 276 = .ok (.aload_n 0, 1) := by decide +kernel
theorem d_Mod_least_277 : decode b_Mod_least 277 = .ok (.getfield 22, 3) := by decide +kernel
theorem d_Mod_least_280 : decode b_Mod_least 280 = .ok (.aload_n 0, 1) := by decide +kernel
theorem d_Mod_least_281 : decode b_Mod_least 281 = .ok (.getfield 107, 3) := by decide +kernel
theorem d_Mod_least_284 : decode b_Mod_least 284 = .ok (.iconst 1, 1) := by decide +kernel
theorem d_Mod_least_285 : decode b_Mod_least 285 = .ok (.isub, 1) := by decide +kernel
theorem d_Mod_least_286 : decode b_Mod_least 286 = .ok (.aload_n 0, 1) := by decide +kernel
theorem d_Mod_least_287 : decode b_Mod_least 287 = .ok (.getfield 7, 3) := by decide +kernel
theorem d_Mod_least_290 : decode b_Mod_least 290 = .ok (.iload_n 1, 1) := by decide +kernel
theorem d_Mod_least_291 : decode b_Mod_least 291 = .ok (.iaload, 1) := by decide +kernel
theorem d_Mod_least_292 : decode b_Mod_least 292 = .ok (.iload 4, 2) := by decide +kernel
theorem d_Mod_least_294 : decode b_Mod_least 294 = .ok (.iadd, 1) := by decide +kernel
theorem d_Mod_least_295 : decode b_Mod_least 295 = .ok (.iastore, 1) := by decide +kernel
theorem d_Mod_least_296 : decode b_Mod_least 296 = .ok (.iinc 4 1, 3) := by decide +kernel
theorem d_Mod_least_299 : decode b_Mod_least 299 = .ok (.goto (-99), 3) := by decide +kernel
theorem d_Mod_least_302 : decode b_Mod_least 302 = .ok (.aload_n 0, 1) := by decide +kernel
theorem d_Mod_least_303 : decode b_Mod_least 303 = .ok (.getfield 107, 3) := by decide +kernel
theorem d_Mod_least_306 : decode b_Mod_least 306 = .ok (.ireturn, 1) := by decide +kernel
theorem d_Mod_span_0 : decode b_Mod_span 0 = .ok (.aload_n 0, 1) := by decide +kernel
theorem d_Mod_span_1 : decode b_Mod_span 1 = .ok (.iload_n 1, 1) := by decide +kernel
theorem d_Mod_span_2 : decode b_Mod_span 2 = .ok (.ifCond .lt 24, 3) := by decide +kernel
theorem d_Mod_span_5 : decode b_Mod_span 5 = .ok (.iload_n 1, 1) := by decide +kernel
theorem d_Mod_span_6 : decode b_Mod_span 6 = .ok (.aload_n 0, 1) := by decide +kernel
theorem d_Mod_span_7 : decode b_Mod_span 7 = .ok (.getfield 107, 3) := by decide +kernel
theorem d_Mod_span_10 : decode b_Mod_span 10 = .ok (.if_icmp .ge 16, 3) := by decide +kernel
theorem d_Mod_span_13 : decode b_Mod_span 13 = .ok (.iload_n 2, 1) := by decide +kernel
theorem d_Mod_span_14 : decode b_Mod_span 14 = .ok (.ifCond .eq 8, 3) := by decide +kernel
theorem d_Mod_span_17 : decode b_Mod_span 17 = .ok (.iload_n 2, 1) := by decide +kernel
theorem d_Mod_span_18 : decode b_Mod_span 18 = .ok (.iconst 1, 1) := by decide +kernel
theorem d_Mod_span_19 : decode b_Mod_span 19 = .ok (.if_icmp .ne 7, 3) := by decide +kernel
theorem d_Mod_span_22 : decode b_Mod_span 22 = .ok (.iconst 1, 1) := by decide +kernel
theorem d_Mod_span_23 : decode b_Mod_span 23 = .ok (.goto 4, 3) := by decide +kernel
theorem d_Mod_span_26 : decode b_Mod_span 26 = .ok (.iconst 0, 1) := by decide +kernel
theorem d_Mod_span_27 : decode b_Mod_span 27 = .ok (.iconst 1, 1) := by decide +kernel
theorem d_Mod_span_28 : decode b_Mod_span 28 = .ok (.iconst 1, 1) := by decide +kernel
theorem d_Mod_span_29 : decode b_Mod_span 29 = .ok (.iconst 1, 1) := by decide +kernel
theorem d_Mod_span_30 : decode b_Mod_span 30 = .ok (.invokevirtual 50, 3) := by decide +kernel
theorem d_Mod_span_33 : decode b_Mod_span 33 = .ok (.ifCond .ne 5, 3) := by decide +kernel
theorem d_Mod_span_36 : decode b_Mod_span 36 = .ok (.iconst 0, 1) := by decide +kernel
theorem d_Mod_span_37 : decode b_Mod_span 37 = .ok (.ireturn, 1) := by decide +kernel
theorem d_Mod_span_38 : decode b_Mod_span 38 = .ok (.iload_n 2, 1) := by decide +kernel
theorem d_Mod_span_39 : decode b_Mod_span 39 = .ok (.ifCond .ne 12, 3) := by decide +kernel
theorem d_Mod_span_42 : decode b_Mod_span 42 = .ok (.aload_n 0, 1) := by decide +kernel
theorem d_Mod_span_43 : decode b_Mod_span 43 = .ok (.getfield 19, 3) := by decide +kernel
theorem d_Mod_span_46 : decode b_Mod_span 46 = .ok (.iload_n 1, 1) := by decide +kernel
theorem d_Mod_span_47 : decode b_Mod_span 47 = .ok (.iaload, 1) := by decide +kernel
theorem d_Mod_span_48 : decode b_Mod_span 48 = .ok (.goto 9, 3) := by decide +kernel
theorem d_Mod_span_51 : decode b_Mod_span 51 = .ok (.aload_n 0, 1) := by decide +kernel
theorem d_Mod_span_52 : decode b_Mod_span 52 = .ok (.getfield 22, 3) := by decide +kernel
theorem d_Mod_span_55 : decode b_Mod_span 55 = .ok (.iload_n 1, 1) := by decide +kernel
theorem d_Mod_span_56 : decode b_Mod_span 56 = .ok (.iaload, 1) := by decide +kernel
