theorem d_Yf_init_0 : decode b_Yf_init 0 = .ok (.aload_n 0, 1) := by decide +kernel
theorem d_Yf_init_1 : decode b_Yf_init 1 = .ok (.invokespecial 1, 3) := by decide +kernel
theorem d_Yf_init_4 : decode b_Yf_init 4 = .ok (.aload_n 0, 1) := by decide +kernel
theorem d_Yf_init_5 : decode b_Yf_init 5 = .ok (.bipush 8, 2) := by decide +kernel
theorem d_Yf_init_7 : decode b_Yf_init 7 = .ok (.anewarray 9, 3) := by decide +kernel
theorem d_Yf_init_10 : decode b_Yf_init 10 = .ok (.putfield 11, 3) := by decide +kernel
theorem d_Yf_init_13 : decode b_Yf_init 13 = .ok (.iconst 0, 1) := by decide +kernel
theorem d_Yf_init_14 : decode b_Yf_init 14 = .ok (.istore_n 1, 1) := by decide +kernel
theorem d_Yf_init_15 : decode b_Yf_init 15 = .ok (.iload_n 1, 1) := by decide +kernel
theorem d_Yf_init_16 : decode b_Yf_init 16 = .ok (.bipush 8, 2) := by decide +kernel
theorem d_Yf_init_18 : decode b_Yf_init 18 = .ok (.if_icmp .ge 22, 3) := by decide +kernel
theorem d_Yf_init_21 : decode b_Yf_init 21 = .ok (.aload_n 0, 1) := by decide +kernel
theorem d_Yf_init_22 : decode b_Yf_init 22 = .ok (.getfield 11, 3) := by decide +kernel
theorem d_Yf_init_25 : decode b_Yf_init 25 = .ok (.iload_n 1, 1) := by decide +kernel
theorem d_Yf_init_26 : decode b_Yf_init 26 = .ok (.new 9, 3) := by decide +kernel
theorem d_Yf_init_29 : decode b_Yf_init 29 = .ok (.dup, 1) := by decide +kernel
theorem d_Yf_init_30 : decode b_Yf_init 30 = .ok (.invokespecial 15, 3) := by decide +kernel
theorem d_Yf_init_33 : decode b_Yf_init 33 = .ok (.aastore, 1) := by decide +kernel
theorem d_Yf_init_34 : decode b_Yf_init 34 = .ok (.iinc 1 1, 3) := by decide +kernel
theorem d_Yf_init_37 : decode b_Yf_init 37 = .ok (.goto (-22), 3) := by decide +kernel
theorem d_Yf_init_40 : decode b_Yf_init 40 = .ok (.aload_n 0, 1) := by decide +kernel
theorem d_Yf_init_41 : decode b_Yf_init 41 = .ok (.iconst 0, 1) := by decide +kernel
theorem d_Yf_init_42 : decode b_Yf_init 42 = .ok (.putfield 16, 3) := by decide +kernel
theorem d_Yf_init_45 : decode b_Yf_init 45 = .ok (.aload_n 0, 1) := by decide +kernel
theorem d_Yf_init_46 : decode b_Yf_init 46 = .ok (.lconst 0, 1) := by decide +kernel
theorem d_Yf_init_47 : decode b_Yf_init 47 = .ok (.putfield 20, 3) := by decide +kernel
theorem d_Yf_init_50 : decode b_Yf_init 50 = .ok (.aload_n 0, 1) := by decide +kernel
theorem d_Yf_init_51 : decode b_Yf_init 51 = .ok (.new 24, 3) := by decide +kernel
theorem d_Yf_init_54 : decode b_Yf_init 54 = .ok (.dup, 1) := by decide +kernel
theorem d_Yf_init_55 : decode b_Yf_init 55 = .ok (.invokespecial 26, 3) := by decide +kernel
theorem d_Yf_init_58 : decode b_Yf_init 58 = .ok (.putfield 27, 3) := by decide +kernel
theorem d_Yf_init_61 : decode b_Yf_init 61 = .ok (.aload_n 0, 1) := by decide +kernel
theorem d_Yf_init_62 : decode b_Yf_init 62 = .ok (.new 31, 3) := by decide +kernel
theorem d_Yf_init_65 : decode b_Yf_init 65 = .ok (.dup, 1) := by decide +kernel
theorem d_Yf_init_66 : decode b_Yf_init 66 = .ok (.invokespecial 33, 3) := by decide +kernel
theorem d_Yf_init_69 : decode b_Yf_init 69 = .ok (.putfield 34, 3) := by decide +kernel
theorem d_Yf_init_72 : decode b_Yf_init 72 = .ok (.aload_n 0, 1) := by decide +kernel
theorem d_Yf_init_73 : decode b_Yf_init 73 = .ok (.new 31, 3) := by decide +kernel
theorem d_Yf_init_76 : decode b_Yf_init 76 = .ok (.dup, 1) := by decide +kernel
theorem d_Yf_init_77 : decode b_Yf_init 77 = .ok (.invokespecial 33, 3) := by decide +kernel
theorem d_Yf_init_80 : decode b_Yf_init 80 = .ok (.putfield 38, 3) := by decide +kernel
theorem d_Yf_init_83 : decode b_Yf_init 83 = .ok (.aload_n 0, 1) := by decide +kernel
theorem d_Yf_init_84 : decode b_Yf_init 84 = .ok (.new 31, 3) := by decide +kernel
theorem d_Yf_init_87 : decode b_Yf_init 87 = .ok (.dup, 1) := by decide +kernel
theorem d_Yf_init_88 : decode b_Yf_init 88 = .ok (.invokespecial 33, 3) := by decide +kernel
theorem d_Yf_init_91 : decode b_Yf_init 91 = .ok (.putfield 41, 3) := by decide +kernel
theorem d_Yf_init_94 : decode b_Yf_init 94 = .ok (.return_, 1) := by decide +kernel
theorem d_Yf_row_0 : decode b_Yf_row 0 = .ok (.aload_n 0, 1) := by decide +kernel
theorem d_Yf_row_1 : decode b_Yf_row 1 = .ok (.invokevirtual 44, 3) := by decide +kernel
theorem d_Yf_row_4 : decode b_Yf_row 4 = .ok (.astore_n 3, 1) := by decide +kernel
theorem d_Yf_row_5 : decode b_Yf_row 5 = .ok (.iload_n 2, 1) := by decide +kernel
theorem d_Yf_row_6 : decode b_Yf_row 6 = .ok (.iconst 1, 1) := by decide +kernel
theorem d_Yf_row_7 : decode b_Yf_row 7 = .ok (.if_icmp .lt 9, 3) := by decide +kernel
theorem d_Yf_row_10 : decode b_Yf_row 10 = .ok (.iload_n 2, 1) := by decide +kernel
theorem d_Yf_row_11 : decode b_Yf_row 11 = .ok (.bipush 48, 2) := by decide +kernel
theorem d_Yf_row_13 : decode b_Yf_row 13 = .ok (.if_icmp .le 13, 3) := by decide +kernel
theorem d_Yf_row_16 : decode b_Yf_row 16 = .ok (.new 48, 3) := by decide +kernel
theorem d_Yf_row_19 : decode b_Yf_row 19 = .ok (.dup, 1) := by decide +kernel
theorem d_Yf_row_20 : decode b_Yf_row 20 = .ok (.ldc 50, 2) := by decide +kernel
theorem d_Yf_row_22 : decode b_Yf_row 22 = .ok (.invokespecial 52, 3) := by decide +kernel
theorem d_Yf_row_25 : decode b_Yf_row 25 = .ok (.athrow, 1) := by decide +kernel
theorem d_Yf_row_26 : decode b_Yf_row 26 = .ok (.iload_n 1, 1) := by decide +kernel
theorem d_Yf_row_27 : decode b_Yf_row 27 = .ok (.sipush (-9999), 3) := by decide +kernel
theorem d_Yf_row_30 : decode b_Yf_row 30 = .ok (.if_icmp .lt 14, 3) := by decide +kernel
theorem d_Yf_row_33 : decode b_Yf_row 33 = .ok (.iload_n 1, 1) := by decide +kernel
theorem d_Yf_row_34 : decode b_Yf_row 34 = .ok (.sipush 9999, 3) := by decide +kernel
theorem d_Yf_row_37 : decode b_Yf_row 37 = .ok (.iload_n 2, 1) := by decide +kernel
theorem d_Yf_row_38 : decode b_Yf_row 38 = .ok (.iconst 1, 1) := by decide +kernel
theorem d_Yf_row_39 : decode b_Yf_row 39 = .ok (.isub, 1) := by decide +kernel
theorem d_Yf_row_40 : decode b_Yf_row 40 = .ok (.isub, 1) := by decide +kernel
theorem d_Yf_row_41 : decode b_Yf_row 41 = .ok (.if_icmp .le 13, 3) := by decide +kernel
theorem d_Yf_row_44 : decode b_Yf_row 44 = .ok (.new 48, 3) := by decide +kernel
theorem d_Yf_row_47 : decode b_Yf_row 47 = .ok (.dup, 1) := by decide +kernel
theorem d_Yf_row_48 : decode b_Yf_row 48 = .ok (.ldc 55, 2) := by decide +kernel
theorem d_Yf_row_50 : decode b_Yf_row 50 = .ok (.invokespecial 52, 3) := by decide +kernel
theorem d_Yf_row_53 : decode b_Yf_row 53 = .ok (.athrow, 1) := by decide +kernel
theorem d_Yf_row_54 : decode b_Yf_row 54 = .ok (.aload_n 3, 1) := by decide +kernel
theorem d_Yf_row_55 : decode b_Yf_row 55 = .ok (.iload_n 1, 1) := by decide +kernel
theorem d_Yf_row_56 : decode b_Yf_row 56 = .ok (.iload_n 2, 1) := by decide +kernel
theorem d_Yf_row_57 : decode b_Yf_row 57 = .ok (.invokevirtual 57, 3) := by decide +kernel
theorem d_Yf_row_60 : decode b_Yf_row 60 = .ok (.aload_n 0, 1) := by decide +kernel
theorem d_Yf_row_61 : decode b_Yf_row 61 = .ok (.invokevirtual 61, 3) := by decide +kernel
theorem d_Yf_row_64 : decode b_Yf_row 64 = .ok (.ireturn, 1) := by decide +kernel
theorem d_Yf_weight_0 : decode b_Yf_weight 0 = .ok (.aload_n 0, 1) := by decide +kernel
theorem d_Yf_weight_1 : decode b_Yf_weight 1 = .ok (.iload_n 1, 1) := by decide +kernel
theorem d_Yf_weight_2 : decode b_Yf_weight 2 = .ok (.iload_n 2, 1) := by decide +kernel
theorem d_Yf_weight_3 : decode b_Yf_weight 3 = .ok (.invokevirtual 65, 3) := by decide +kernel
theorem d_Yf_weight_6 : decode b_Yf_weight 6 = .ok (.astore 5, 2) := by decide +kernel
theorem d_Yf_weight_8 : decode b_Yf_weight 8 = .ok (.lload_n 3, 1) := by decide +kernel
theorem d_Yf_weight_9 : decode b_Yf_weight 9 = .ok (.lconst 0, 1) := by decide +kernel
theorem d_Yf_weight_10 : decode b_Yf_weight 10 = .ok (.lcmp, 1) := by decide +kernel
theorem d_Yf_weight_11 : decode b_Yf_weight 11 = .ok (.ifCond .ge 13, 3) := by decide +kernel
theorem d_Yf_weight_14 : decode b_Yf_weight 14 = .ok (.new 48, 3) := by decide +kernel
theorem d_Yf_weight_17 : decode b_Yf_weight 17 = .ok (.dup, 1) := by decide +kernel
theorem d_Yf_weight_18 : decode b_Yf_weight 18 = .ok (.ldc 69, 2) := by decide +kernel
theorem d_Yf_weight_20 : decode b_Yf_weight 20 = .ok (.invokespecial 52, 3) := by decide +kernel
theorem d_Yf_weight_23 : decode b_Yf_weight 23 = .ok (.athrow, 1) := by decide +kernel
theorem d_Yf_weight_24 : decode b_Yf_weight 24 = .ok (.aload 5, 2) := by decide +kernel
theorem d_Yf_weight_26 : decode b_Yf_weight 26 = .ok (.iload_n 2, 1) := by decide +kernel
theorem d_Yf_weight_27 : decode b_Yf_weight 27 = .ok (.aload_n 0, 1) := by decide +kernel
theorem d_Yf_weight_28 : decode b_Yf_weight 28 = .ok (.getfield 34, 3) := by decide +kernel
theorem d_Yf_weight_31 : decode b_Yf_weight 31 = .ok (.invokevirtual 71, 3) := by decide +kernel
theorem d_Yf_weight_34 : decode b_Yf_weight 34 = .ok (.aload_n 0, 1) := by decide +kernel
theorem d_Yf_weight_35 : decode b_Yf_weight 35 = .ok (.getfield 38, 3) := by decide +kernel
theorem d_Yf_weight_38 : decode b_Yf_weight 38 = .ok (.lload_n 3, 1) := by decide +kernel
theorem d_Yf_weight_39 : decode b_Yf_weight 39 = .ok (.invokevirtual 75, 3) := by decide +kernel
theorem d_Yf_weight_42 : decode b_Yf_weight 42 = .ok (.aload 5, 2) := by decide +kernel
theorem d_Yf_weight_44 : decode b_Yf_weight 44 = .ok (.iload_n 2, 1) := by decide +kernel
theorem d_Yf_weight_45 : decode b_Yf_weight 45 = .ok (.aload_n 0, 1) := by decide +kernel
theorem d_Yf_weight_46 : decode b_Yf_weight 46 = .ok (.getfield 38, 3) := by decide +kernel
theorem d_Yf_weight_49 : decode b_Yf_weight 49 = .ok (.invokevirtual 79, 3) := by decide +kernel
theorem d_Yf_weight_52 : decode b_Yf_weight 52 = .ok (.aload_n 0, 1) := by decide +kernel
theorem d_Yf_weight_53 : decode b_Yf_weight 53 = .ok (.getfield 34, 3) := by decide +kernel
theorem d_Yf_weight_56 : decode b_Yf_weight 56 = .ok (.aload_n 0, 1) := by decide +kernel
theorem d_Yf_weight_57 : decode b_Yf_weight 57 = .ok (.getfield 38, 3) := by decide +kernel
theorem d_Yf_weight_60 : decode b_Yf_weight 60 = .ok (.invokevirtual 82, 3) := by decide +kernel
theorem d_Yf_weight_63 : decode b_Yf_weight 63 = .ok (.ifCond .eq 7, 3) := by decide +kernel
theorem d_Yf_weight_66 : decode b_Yf_weight 66 = .ok (.iconst 1, 1) := by decide +kernel
theorem d_Yf_weight_67 : decode b_Yf_weight 67 = .ok (.goto 4, 3) := by decide +kernel
theorem d_Yf_weight_70 : decode b_Yf_weight 70 = .ok (.iconst 0, 1) := by decide +kernel
theorem d_Yf_weight_71 : decode b_Yf_weight 71 = .ok (.ireturn, 1) := by decide +kernel
theorem d_Yf_add_0 : decode b_Yf_add 0 = .ok (.aload_n 0, 1) := by decide +kernel
theorem d_Yf_add_1 : decode b_Yf_add 1 = .ok (.iload_n 1, 1) := by decide +kernel
theorem d_Yf_add_2 : decode b_Yf_add 2 = .ok (.invokevirtual 86, 3) := by decide +kernel
theorem d_Yf_add_5 : decode b_Yf_add 5 = .ok (.astore_n 3, 1) := by decide +kernel
theorem d_Yf_add_6 : decode b_Yf_add 6 = .ok (.aload_n 0, 1) := by decide +kernel
theorem d_Yf_add_7 : decode b_Yf_add 7 = .ok (.iload_n 2, 1) := by decide +kernel
theorem d_Yf_add_8 : decode b_Yf_add 8 = .ok (.invokevirtual 86, 3) := by decide +kernel
theorem d_Yf_add_11 : decode b_Yf_add 11 = .ok (.astore 4, 2) := by decide +kernel
theorem d_Yf_add_13 : decode b_Yf_add 13 = .ok (.aload_n 0, 1) := by decide +kernel
theorem d_Yf_add_14 : decode b_Yf_add 14 = .ok (.invokevirtual 44, 3) := by decide +kernel
theorem d_Yf_add_17 : decode b_Yf_add 17 = .ok (.astore 5, 2) := by decide +kernel
theorem d_Yf_add_19 : decode b_Yf_add 19 = .ok (.aload_n 3, 1) := by decide +kernel
theorem d_Yf_add_20 : decode b_Yf_add 20 = .ok (.getfield 90, 3) := by decide +kernel
theorem d_Yf_add_23 : decode b_Yf_add 23 = .ok (.aload 4, 2) := by decide +kernel
theorem d_Yf_add_25 : decode b_Yf_add 25 = .ok (.getfield 90, 3) := by decide +kernel
theorem d_Yf_add_28 : decode b_Yf_add 28 = .ok (.invokestatic 93, 3) := by decide +kernel
theorem d_Yf_add_31 : decode b_Yf_add 31 = .ok (.istore 6, 2) := by decide +kernel
theorem d_Yf_add_33 : decode b_Yf_add 33 = .ok (.aload_n 3, 1) := by decide +kernel
theorem d_Yf_add_34 : decode b_Yf_add 34 = .ok (.invokevirtual 99, 3) := by decide +kernel
theorem d_Yf_add_37 : decode b_Yf_add 37 = .ok (.aload 4, 2) := by decide +kernel
theorem d_Yf_add_39 : decode b_Yf_add 39 = .ok (.invokevirtual 99, 3) := by decide +kernel
theorem d_Yf_add_42 : decode b_Yf_add 42 = .ok (.invokestatic 102, 3) := by decide +kernel
theorem d_Yf_add_45 : decode b_Yf_add 45 = .ok (.istore 7, 2) := by decide +kernel
theorem d_Yf_add_47 : decode b_Yf_add 47 = .ok (.iload 7, 2) := by decide +kernel
theorem d_Yf_add_49 : decode b_Yf_add 49 = .ok (.iload 6, 2) := by decide +kernel
theorem d_Yf_add_51 : decode b_Yf_add 51 = .ok (.isub, 1) := by decide +kernel
theorem d_Yf_add_52 : decode b_Yf_add 52 = .ok (.bipush 48, 2) := by decide +kernel
theorem d_Yf_add_54 : decode b_Yf_add 54 = .ok (.if_icmp .lt 13, 3) := by decide +kernel
theorem d_Yf_add_57 : decode b_Yf_add 57 = .ok (.new 48, 3) := by decide +kernel
theorem d_Yf_add_60 : decode b_Yf_add 60 = .ok (.dup, 1) := by decide +kernel
theorem d_Yf_add_61 : decode b_Yf_add 61 = .ok (.ldc 105, 2) := by decide +kernel
theorem d_Yf_add_63 : decode b_Yf_add 63 = .ok (.invokespecial 52, 3) := by decide +kernel
theorem d_Yf_add_66 : decode b_Yf_add 66 = .ok (.athrow, 1) := by decide +kernel
theorem d_Yf_add_67 : decode b_Yf_add 67 = .ok (.aload 5, 2) := by decide +kernel
theorem d_Yf_add_69 : decode b_Yf_add 69 = .ok (.iload 6, 2) := by decide +kernel
theorem d_Yf_add_71 : decode b_Yf_add 71 = .ok (.iload 7, 2) := by decide +kernel
theorem d_Yf_add_73 : decode b_Yf_add 73 = .ok (.iload 6, 2) := by decide +kernel
theorem d_Yf_add_75 : decode b_Yf_add 75 = .ok (.isub, 1) := by decide +kernel
theorem d_Yf_add_76 : decode b_Yf_add 76 = .ok (.iconst 1, 1) := by decide +kernel
theorem d_Yf_add_77 : decode b_Yf_add 77 = .ok (.iadd, 1) := by decide +kernel
theorem d_Yf_add_78 : decode b_Yf_add 78 = .ok (.invokevirtual 57, 3) := by decide +kernel
theorem d_Yf_add_81 : decode b_Yf_add 81 = .ok (.iload 6, 2) := by decide +kernel
theorem d_Yf_add_83 : decode b_Yf_add 83 = .ok (.istore 8, 2) := by decide +kernel
theorem d_Yf_add_85 : decode b_Yf_add 85 = .ok (.iload 8, 2) := by decide +kernel
theorem d_Yf_add_87 : decode b_Yf_add 87 = .ok (.iload 7, 2) := by decide +kernel
theorem d_Yf_add_89 : decode b_Yf_add 89 = .ok (.if_icmp .gt 52, 3) := by decide +kernel
theorem d_Yf_add_92 : decode b_Yf_add 92 = .ok (.aload_n 3, 1) := by decide +kernel
theorem d_Yf_add_93 : decode b_Yf_add 93 = .ok (.iload 8, 2) := by decide +kernel
theorem d_Yf_add_95 : decode b_Yf_add 95 = .ok (.aload_n 0, 1) := by decide +kernel
theorem d_Yf_add_96 : decode b_Yf_add 96 = .ok (.getfield 34, 3) := by decide +kernel
theorem d_Yf_add_99 : decode b_Yf_add 99 = .ok (.invokevirtual 71, 3) := by decide +kernel
theorem d_Yf_add_102 : decode b_Yf_add 102 = .ok (.aload 4, 2) := by decide +kernel
theorem d_Yf_add_104 : decode b_Yf_add 104 = .ok (.iload 8, 2) := by decide +kernel
theorem d_Yf_add_106 : decode b_Yf_add 106 = .ok (.aload_n 0, 1) := by decide +kernel
theorem d_Yf_add_107 : decode b_Yf_add 107 = .ok (.getfield 38, 3) := by decide +kernel
theorem d_Yf_add_110 : decode b_Yf_add 110 = .ok (.invokevirtual 71, 3) := by decide +kernel
theorem d_Yf_add_113 : decode b_Yf_add 113 = .ok (.aload_n 0, 1) := by decide +kernel
theorem d_Yf_add_114 : decode b_Yf_add 114 = .ok (.getfield 34, 3) := by decide +kernel
theorem d_Yf_add_117 : decode b_Yf_add 117 = .ok (.aload_n 0, 1) := by decide +kernel
theorem d_Yf_add_118 : decode b_Yf_add 118 = .ok (.getfield 38, 3) := by decide +kernel
theorem d_Yf_add_121 : decode b_Yf_add 121 = .ok (.invokevirtual 107, 3) := by decide +kernel
theorem d_Yf_add_124 : decode b_Yf_add 124 = .ok (.aload 5, 2) := by decide +kernel
theorem d_Yf_add_126 : decode b_Yf_add 126 = .ok (.iload 8, 2) := by decide +kernel
theorem d_Yf_add_128 : decode b_Yf_add 128 = .ok (.aload_n 0, 1) := by decide +kernel
theorem d_Yf_add_129 : decode b_Yf_add 129 = .ok (.getfield 34, 3) := by decide +kernel
theorem d_Yf_add_132 : decode b_Yf_add 132 = .ok (.invokestatic 111, 3) := by decide +kernel
theorem d_Yf_add_135 : decode b_Yf_add 135 = .ok (.iinc 8 1, 3) := by decide +kernel
theorem d_Yf_add_138 : decode b_Yf_add 138 = .ok (.goto (-53), 3) := by decide +kernel
theorem d_Yf_add_141 : decode b_Yf_add 141 = .ok (.aload_n 0, 1) := by decide +kernel
theorem d_Yf_add_142 : decode b_Yf_add 142 = .ok (.invokevirtual 61, 3) := by decide +kernel
theorem d_Yf_add_145 : decode b_Yf_add 145 = .ok (.ireturn, 1) := by decide +kernel
theorem d_Yf_times_0 : decode b_Yf_times 0 = .ok (.aload_n 0, 1) := by decide +kernel
theorem d_Yf_times_1 : decode b_Yf_times 1 = .ok (.iload_n 1, 1) := by decide +kernel
theorem d_Yf_times_2 : decode b_Yf_times 2 = .ok (.invokevirtual 86, 3) := by decide +kernel
theorem d_Yf_times_5 : decode b_Yf_times 5 = .ok (.astore 4, 2) := by decide +kernel
theorem d_Yf_times_7 : decode b_Yf_times 7 = .ok (.aload_n 0, 1) := by decide +kernel
theorem d_Yf_times_8 : decode b_Yf_times 8 = .ok (.iload_n 2, 1) := by decide +kernel
theorem d_Yf_times_9 : decode b_Yf_times 9 = .ok (.invokevirtual 86, 3) := by decide +kernel
theorem d_Yf_times_12 : decode b_Yf_times 12 = .ok (.astore 5, 2) := by decide +kernel
theorem d_Yf_times_14 : decode b_Yf_times 14 = .ok (.aload_n 0, 1) := by decide +kernel
theorem d_Yf_times_15 : decode b_Yf_times 15 = .ok (.invokevirtual 44, 3) := by decide +kernel
theorem d_Yf_times_18 : decode b_Yf_times 18 = .ok (.astore 6, 2) := by decide +kernel
theorem d_Yf_times_20 : decode b_Yf_times 20 = .ok (.iload_n 3, 1) := by decide +kernel
theorem d_Yf_times_21 : decode b_Yf_times 21 = .ok (.iconst 1, 1) := by decide +kernel
theorem d_Yf_times_22 : decode b_Yf_times 22 = .ok (.if_icmp .lt 9, 3) := by decide +kernel
theorem d_Yf_times_25 : decode b_Yf_times 25 = .ok (.iload_n 3, 1) := by decide +kernel
theorem d_Yf_times_26 : decode b_Yf_times 26 = .ok (.ldc 115, 2) := by decide +kernel
theorem d_Yf_times_28 : decode b_Yf_times 28 = .ok (.if_icmp .le 13, 3) := by decide +kernel
theorem d_Yf_times_31 : decode b_Yf_times 31 = .ok (.new 48, 3) := by decide +kernel
theorem d_Yf_times_34 : decode b_Yf_times 34 = .ok (.dup, 1) := by decide +kernel
theorem d_Yf_times_35 : decode b_Yf_times 35 = .ok (.ldc 116, 2) := by decide +kernel
theorem d_Yf_times_37 : decode b_Yf_times 37 = .ok (.invokespecial 52, 3) := by decide +kernel
theorem d_Yf_times_40 : decode b_Yf_times 40 = .ok (.athrow, 1) := by decide +kernel
theorem d_Yf_times_41 : decode b_Yf_times 41 = .ok (.aload 4, 2) := by decide +kernel
theorem d_Yf_times_43 : decode b_Yf_times 43 = .ok (.getfield 90, 3) := by decide +kernel
theorem d_Yf_times_46 : decode b_Yf_times 46 = .ok (.aload 5, 2) := by decide +kernel
theorem d_Yf_times_48 : decode b_Yf_times 48 = .ok (.getfield 90, 3) := by decide +kernel
theorem d_Yf_times_51 : decode b_Yf_times 51 = .ok (.invokestatic 102, 3) := by decide +kernel
theorem d_Yf_times_54 : decode b_Yf_times 54 = .ok (.istore 7, 2) := by decide +kernel
theorem d_Yf_times_56 : decode b_Yf_times 56 = .ok (.aload 4, 2) := by decide +kernel
theorem d_Yf_times_58 : decode b_Yf_times 58 = .ok (.invokevirtual 99, 3) := by decide +kernel
theorem d_Yf_times_61 : decode b_Yf_times 61 = .ok (.aload 5, 2) := by decide +kernel
theorem d_Yf_times_63 : decode b_Yf_times 63 = .ok (.invokevirtual 99, 3) := by decide +kernel
theorem d_Yf_times_66 : decode b_Yf_times 66 = .ok (.invokestatic 93, 3) := by decide +kernel
theorem d_Yf_times_69 : decode b_Yf_times 69 = .ok (.istore 8, 2) := by decide +kernel
theorem d_Yf_times_71 : decode b_Yf_times 71 = .ok (.iload 7, 2) := by decide +kernel
theorem d_Yf_times_73 : decode b_Yf_times 73 = .ok (.iload 8, 2) := by decide +kernel
theorem d_Yf_times_75 : decode b_Yf_times 75 = .ok (.if_icmp .le 13, 3) := by decide +kernel
theorem d_Yf_times_78 : decode b_Yf_times 78 = .ok (.new 48, 3) := by decide +kernel
theorem d_Yf_times_81 : decode b_Yf_times 81 = .ok (.dup, 1) := by decide +kernel
theorem d_Yf_times_82 : decode b_Yf_times 82 = .ok (.ldc 118, 2) := by decide +kernel
theorem d_Yf_times_84 : decode b_Yf_times 84 = .ok (.invokespecial 52, 3) := by decide +kernel
theorem d_Yf_times_87 : decode b_Yf_times 87 = .ok (.athrow, 1) := by decide +kernel
theorem d_Yf_times_88 : decode b_Yf_times 88 = .ok (.aload 6, 2) := by decide +kernel
theorem d_Yf_times_90 : decode b_Yf_times 90 = .ok (.iload 7, 2) := by decide +kernel
theorem d_Yf_times_92 : decode b_Yf_times 92 = .ok (.iload 8, 2) := by decide +kernel
theorem d_Yf_times_94 : decode b_Yf_times 94 = .ok (.iload 7, 2) := by decide +kernel
theorem d_Yf_times_96 : decode b_Yf_times 96 = .ok (.isub, 1) := by decide +kernel
theorem d_Yf_times_97 : decode b_Yf_times 97 = .ok (.iconst 1, 1) := by decide +kernel
theorem d_Yf_times_98 : decode b_Yf_times 98 = .ok (.iadd, 1) := by decide +kernel
theorem d_Yf_times_99 : decode b_Yf_times 99 = .ok (.invokevirtual 57, 3) := by decide +kernel
theorem d_Yf_times_102 : decode b_Yf_times 102 = .ok (.lconst 0, 1) := by decide +kernel
theorem d_Yf_times_103 : decode b_Yf_times 103 = .ok (.lstore 9, 2) := by decide +kernel
theorem d_Yf_times_105 : decode b_Yf_times 105 = .ok (.iload 7, 2) := by decide +kernel
theorem d_Yf_times_107 : decode b_Yf_times 107 = .ok (.istore 11, 2) := by decide +kernel
theorem d_Yf_times_109 : decode b_Yf_times 109 = .ok (.iload 11, 2) := by decide +kernel
theorem d_Yf_times_111 : decode b_Yf_times 111 = .ok (.iload 8, 2) := by decide +kernel
theorem d_Yf_times_113 : decode b_Yf_times 113 = .ok (.if_icmp .gt 70, 3) := by decide +kernel
theorem d_Yf_times_116 : decode b_Yf_times 116 = .ok (.aload 4, 2) := by decide +kernel
theorem d_Yf_times_118 : decode b_Yf_times 118 = .ok (.iload 11, 2) := by decide +kernel
theorem d_Yf_times_120 : decode b_Yf_times 120 = .ok (.aload_n 0, 1) := by decide +kernel
theorem d_Yf_times_121 : decode b_Yf_times 121 = .ok (.getfield 34, 3) := by decide +kernel
theorem d_Yf_times_124 : decode b_Yf_times 124 = .ok (.invokevirtual 71, 3) := by decide +kernel
theorem d_Yf_times_127 : decode b_Yf_times 127 = .ok (.aload 5, 2) := by decide +kernel
theorem d_Yf_times_129 : decode b_Yf_times 129 = .ok (.iload 11, 2) := by decide +kernel
theorem d_Yf_times_131 : decode b_Yf_times 131 = .ok (.aload_n 0, 1) := by decide +kernel
theorem d_Yf_times_132 : decode b_Yf_times 132 = .ok (.getfield 38, 3) := by decide +kernel
theorem d_Yf_times_135 : decode b_Yf_times 135 = .ok (.invokevirtual 71, 3) := by decide +kernel
theorem d_Yf_times_138 : decode b_Yf_times 138 = .ok (.aload_n 0, 1) := by decide +kernel
theorem d_Yf_times_139 : decode b_Yf_times 139 = .ok (.getfield 41, 3) := by decide +kernel
theorem d_Yf_times_142 : decode b_Yf_times 142 = .ok (.aload_n 0, 1) := by decide +kernel
theorem d_Yf_times_143 : decode b_Yf_times 143 = .ok (.getfield 34, 3) := by decide +kernel
theorem d_Yf_times_146 : decode b_Yf_times 146 = .ok (.aload_n 0, 1) := by decide +kernel
theorem d_Yf_times_147 : decode b_Yf_times 147 = .ok (.getfield 38, 3) := by decide +kernel
theorem d_Yf_times_150 : decode b_Yf_times 150 = .ok (.invokevirtual 120, 3) := by decide +kernel
theorem d_Yf_times_153 : decode b_Yf_times 153 = .ok (.lload 9, 2) := by decide +kernel
theorem d_Yf_times_155 : decode b_Yf_times 155 = .ok (.aload_n 0, 1) := by decide +kernel
theorem d_Yf_times_156 : decode b_Yf_times 156 = .ok (.getfield 41, 3) := by decide +kernel
theorem d_Yf_times_159 : decode b_Yf_times 159 = .ok (.iload_n 3, 1) := by decide +kernel
theorem d_Yf_times_160 : decode b_Yf_times 160 = .ok (.invokevirtual 124, 3) := by decide +kernel
theorem d_Yf_times_163 : decode b_Yf_times 163 = .ok (.ladd, 1) := by decide +kernel
theorem d_Yf_times_164 : decode b_Yf_times 164 = .ok (.lstore 9, 2) := by decide +kernel
theorem d_Yf_times_166 : decode b_Yf_times 166 = .ok (.aload 6, 2) := by decide +kernel
theorem d_Yf_times_168 : decode b_Yf_times 168 = .ok (.iload 11, 2) := by decide +kernel
theorem d_Yf_times_170 : decode b_Yf_times 170 = .ok (.aload_n 0, 1) := by decide +kernel
theorem d_Yf_times_171 : decode b_Yf_times 171 = .ok (.getfield 41, 3) := by decide +kernel
theorem d_Yf_times_174 : decode b_Yf_times 174 = .ok (.invokestatic 111, 3) := by decide +kernel
theorem d_Yf_times_177 : decode b_Yf_times 177 = .ok (.iinc 11 1, 3) := by decide +kernel
theorem d_Yf_times_180 : decode b_Yf_times 180 = .ok (.goto (-71), 3) := by decide +kernel
theorem d_Yf_times_183 : decode b_Yf_times 183 = .ok (.aload_n 0, 1) := by decide +kernel
theorem d_Yf_times_184 : decode b_Yf_times 184 = .ok (.lload 9, 2) := by decide +kernel
theorem d_Yf_times_186 : decode b_Yf_times 186 = .ok (.putfield 20, 3) := by decide +kernel
theorem d_Yf_times_189 : decode b_Yf_times 189 = .ok (.aload_n 0, 1) := by decide +kernel
theorem d_Yf_times_190 : decode b_Yf_times 190 = .ok (.invokevirtual 61, 3) := by decide +kernel
theorem d_Yf_times_193 : decode b_Yf_times 193 = .ok (.ireturn, 1) := by decide +kernel
theorem d_Yf_rest_0 : decode b_Yf_rest 0 = .ok (.aload_n 0, 1) := by decide +kernel
theorem d_Yf_rest_1 : decode b_Yf_rest 1 = .ok (.getfield 20, 3) := by decide +kernel
theorem d_Yf_rest_4 : decode b_Yf_rest 4 = .ok (.lreturn, 1) := by decide +kernel
theorem d_Yf_least_0 : decode b_Yf_least 0 = .ok (.aload_n 0, 1) := by decide +kernel
theorem d_Yf_least_1 : decode b_Yf_least 1 = .ok (.iload_n 1, 1) := by decide +kernel
theorem d_Yf_least_2 : decode b_Yf_least 2 = .ok (.invokevirtual 86, 3) := by decide +kernel
theorem d_Yf_least_5 : decode b_Yf_least 5 = .ok (.astore 4, 2) := by decide +kernel
theorem d_Yf_least_7 : decode b_Yf_least 7 = .ok (.iload_n 3, 1) := by decide +kernel
theorem d_Yf_least_8 : decode b_Yf_least 8 = .ok (.iconst 1, 1) := by decide +kernel
theorem d_Yf_least_9 : decode b_Yf_least 9 = .ok (.if_icmp .lt 9, 3) := by decide +kernel
theorem d_Yf_least_12 : decode b_Yf_least 12 = .ok (.iload_n 3, 1) := by decide +kernel
theorem d_Yf_least_13 : decode b_Yf_least 13 = .ok (.ldc 128, 2) := by decide +kernel
theorem d_Yf_least_15 : decode b_Yf_least 15 = .ok (.if_icmp .le 13, 3) := by decide +kernel
theorem d_Yf_least_18 : decode b_Yf_least 18 = .ok (.new 48, 3) := by decide +kernel
theorem d_Yf_least_21 : decode b_Yf_least 21 = .ok (.dup, 1) := by decide +kernel
theorem d_Yf_least_22 : decode b_Yf_least 22 = .ok (.ldc 129, 2) := by decide +kernel
theorem d_Yf_least_24 : decode b_Yf_least 24 = .ok (.invokespecial 52, 3) := by decide +kernel
theorem d_Yf_least_27 : decode b_Yf_least 27 = .ok (.athrow, 1) := by decide +kernel
theorem d_Yf_least_28 : decode b_Yf_least 28 = .ok (.iload_n 2, 1) := by decide +kernel
theorem d_Yf_least_29 : decode b_Yf_least 29 = .ok (.ifCond .lt 8, 3) := by decide +kernel
theorem d_Yf_least_32 : decode b_Yf_least 32 = .ok (.iload_n 2, 1) := by decide +kernel
theorem d_Yf_least_33 : decode b_Yf_least 33 = .ok (.iload_n 3, 1) := by decide +kernel
theorem d_Yf_least_34 : decode b_Yf_least 34 = .ok (.if_icmp .le 13, 3) := by decide +kernel
theorem d_Yf_least_37 : decode b_Yf_least 37 = .ok (.new 48, 3) := by decide +kernel
theorem d_Yf_least_40 : decode b_Yf_least 40 = .ok (.dup, 1) := by decide +kernel
theorem d_Yf_least_41 : decode b_Yf_least 41 = .ok (.ldc 131, 2) := by decide +kernel
theorem d_Yf_least_43 : decode b_Yf_least 43 = .ok (.invokespecial 52, 3) := by decide +kernel
theorem d_Yf_least_46 : decode b_Yf_least 46 = .ok (.athrow, 1) := by decide +kernel
theorem d_Yf_least_47 : decode b_Yf_least 47 = .ok (.aload 4, 2) := by decide +kernel
theorem d_Yf_least_49 : decode b_Yf_least 49 = .ok (.aload_n 0, 1) := by decide +kernel
theorem d_Yf_least_50 : decode b_Yf_least 50 = .ok (.getfield 34, 3) := by decide +kernel
theorem d_Yf_least_53 : decode b_Yf_least 53 = .ok (.aload_n 0, 1) := by decide +kernel
theorem d_Yf_least_54 : decode b_Yf_least 54 = .ok (.getfield 38, 3) := by decide +kernel
theorem d_Yf_least_57 : decode b_Yf_least 57 = .ok (.invokestatic 133, 3) := by decide +kernel
theorem d_Yf_least_60 : decode b_Yf_least 60 = .ok (.aload_n 0, 1) := by decide +kernel
theorem d_Yf_least_61 : decode b_Yf_least 61 = .ok (.getfield 34, 3) := by decide +kernel
theorem d_Yf_least_64 : decode b_Yf_least 64 = .ok (.invokevirtual 137, 3) := by decide +kernel
theorem d_Yf_least_67 : decode b_Yf_least 67 = .ok (.ifCond .eq 13, 3) := by decide +kernel
theorem d_Yf_least_70 : decode b_Yf_least 70 = .ok (.new 141, 3) := by decide +kernel
theorem d_Yf_least_73 : decode b_Yf_least 73 = .ok (.dup, 1) := by decide +kernel
theorem d_Yf_least_74 : decode b_Yf_least 74 = .ok (.ldc 143, 2) := by decide +kernel
theorem d_Yf_least_76 : decode b_Yf_least 76 = .ok (.invokespecial 145, 3) := by decide +kernel
theorem d_Yf_least_79 : decode b_Yf_least 79 = .ok (.athrow, 1) := by decide +kernel
theorem d_Yf_least_80 : decode b_Yf_least 80 = .ok (.aload_n 0, 1) := by decide +kernel
theorem d_Yf_least_81 : decode b_Yf_least 81 = .ok (.getfield 41, 3) := by decide +kernel
theorem d_Yf_least_84 : decode b_Yf_least 84 = .ok (.aload_n 0, 1) := by decide +kernel
theorem d_Yf_least_85 : decode b_Yf_least 85 = .ok (.getfield 34, 3) := by decide +kernel
theorem d_Yf_least_88 : decode b_Yf_least 88 = .ok (.iload_n 2, 1) := by decide +kernel
theorem d_Yf_least_89 : decode b_Yf_least 89 = .ok (.i2l, 1) := by decide +kernel
theorem d_Yf_least_90 : decode b_Yf_least 90 = .ok (.invokevirtual 146, 3) := by decide +kernel
theorem d_Yf_least_93 : decode b_Yf_least 93 = .ok (.aload_n 0, 1) := by decide +kernel
theorem d_Yf_least_94 : decode b_Yf_least 94 = .ok (.aload 4, 2) := by decide +kernel
theorem d_Yf_least_96 : decode b_Yf_least 96 = .ok (.iload_n 3, 1) := by decide +kernel
theorem d_Yf_least_97 : decode b_Yf_least 97 = .ok (.invokevirtual 150, 3) := by decide +kernel
theorem d_Yf_least_100 : decode b_Yf_least 100 = .ok (.aload_n 0, 1) := by decide +kernel
theorem d_Yf_least_101 : decode b_Yf_least 101 = .ok (.getfield 27, 3) := by decide +kernel
theorem d_Yf_least_104 : decode b_Yf_least 104 = .ok (.aload 4, 2) := by decide +kernel
theorem d_Yf_least_106 : decode b_Yf_least 106 = .ok (.invokevirtual 154, 3) := by decide +kernel
theorem d_Yf_least_109 : decode b_Yf_least 109 = .ok (.aload_n 0, 1) := by decide +kernel
theorem d_Yf_least_110 : decode b_Yf_least 110 = .ok (.getfield 27, 3) := by decide +kernel
theorem d_Yf_least_113 : decode b_Yf_least 113 = .ok (.getfield 158, 3) := by decide +kernel
theorem d_Yf_least_116 : decode b_Yf_least 116 = .ok (.ireturn, 1) := by decide +kernel
theorem d_Yf_span_0 : decode b_Yf_span 0 = .ok (.iload_n 1, 1) := by decide +kernel
theorem d_Yf_span_1 : decode b_Yf_span 1 = .ok (.ifCond .lt 14, 3) := by decide +kernel
theorem d_Yf_span_4 : decode b_Yf_span 4 = .ok (.iload_n 1, 1) := by decide +kernel
theorem d_Yf_span_5 : decode b_Yf_span 5 = .ok (.aload_n 0, 1) := by decide +kernel
theorem d_Yf_span_6 : decode b_Yf_span 6 = .ok (.getfield 27, 3) := by decide +kernel
theorem d_Yf_span_9 : decode b_Yf_span 9 = .ok (.getfield 158, 3) := by decide +kernel
theorem d_Yf_span_12 : decode b_Yf_span 12 = .ok (.if_icmp .lt 13, 3) := by decide +kernel
theorem d_Yf_span_15 : decode b_Yf_span 15 = .ok (.new 161, 3) := by decide +kernel
theorem d_Yf_span_18 : decode b_Yf_span 18 = .ok (.dup, 1) := by decide +kernel
theorem d_Yf_span_19 : decode b_Yf_span 19 = .ok (.ldc 163, 2) := by decide +kernel
theorem d_Yf_span_21 : decode b_Yf_span 21 = .ok (.invokespecial 165, 3) := by decide +kernel
theorem d_Yf_span_24 : decode b_Yf_span 24 = .ok (.athrow, 1) := by decide +kernel
theorem d_Yf_span_25 : decode b_Yf_span 25 = .ok (.iload_n 2, 1) := by decide +kernel
theorem d_Yf_span_26 : decode b_Yf_span 26 = .ok (.ifCond .eq 18, 3) := by decide +kernel
theorem d_Yf_span_29 : decode b_Yf_span 29 = .ok (.iload_n 2, 1) := by decide +kernel
theorem d_Yf_span_30 : decode b_Yf_span 30 = .ok (.iconst 1, 1) := by decide +kernel
theorem d_Yf_span_31 : decode b_Yf_span 31 = .ok (.if_icmp .eq 13, 3) := by decide +kernel
theorem d_Yf_span_34 : decode b_Yf_span 34 = .ok (.new 161, 3) := by decide +kernel
theorem d_Yf_span_37 : decode b_Yf_span 37 = .ok (.dup, 1) := by decide +kernel
theorem d_Yf_span_38 : decode b_Yf_span 38 = .ok (.ldc 166, 2) := by decide +kernel
theorem d_Yf_span_40 : decode b_Yf_span 40 = .ok (.invokespecial 165, 3) := by decide +kernel
theorem d_Yf_span_43 : decode b_Yf_span 43 = .ok (.athrow, 1) := by decide +kernel
theorem d_Yf_span_44 : decode b_Yf_span 44 = .ok (.iload_n 2, 1) := by decide +kernel
theorem d_Yf_span_45 : decode b_Yf_span 45 = .ok (.ifCond .ne 15, 3) := by decide +kernel
theorem d_Yf_span_48 : decode b_Yf_span 48 = .ok (.aload_n 0, 1) := by decide +kernel
theorem d_Yf_span_49 : decode b_Yf_span 49 = .ok (.getfield 27, 3) := by decide +kernel
theorem d_Yf_span_52 : decode b_Yf_span 52 = .ok (.getfield 168, 3) := by decide +kernel
theorem d_Yf_span_55 : decode b_Yf_span 55 = .ok (.iload_n 1, 1) := by decide +kernel
theorem d_Yf_span_56 : decode b_Yf_span 56 = .ok (.iaload, 1) := by decide +kernel
theorem d_Yf_span_57 : decode b_Yf_span 57 = .ok (.goto 12, 3) := by decide +kernel
theorem d_Yf_span_60 : decode b_Yf_span 60 = .ok (.aload_n 0, 1) := by decide +kernel
theorem d_Yf_span_61 : decode b_Yf_span 61 = .ok (.getfield 27, 3) := by decide +kernel
theorem d_Yf_span_64 : decode b_Yf_span 64 = .ok (.getfield 172, 3) := by decide +kernel
theorem d_Yf_span_67 : decode b_Yf_span 67 = .ok (.iload_n 1, 1) := by decide +kernel
theorem d_Yf_span_68 : decode b_Yf_span 68 = .ok (.iaload, 1) := by decide +kernel
theorem d_Yf_span_69 : decode b_Yf_span 69 = .ok (.ireturn, 1) := by decide +kernel
theorem d_Yf_digit_0 : decode b_Yf_digit 0 = .ok (.aload_n 0, 1) := by decide +kernel
theorem d_Yf_digit_1 : decode b_Yf_digit 1 = .ok (.iload_n 1, 1) := by decide +kernel
theorem d_Yf_digit_2 : decode b_Yf_digit 2 = .ok (.iload_n 2, 1) := by decide +kernel
theorem d_Yf_digit_3 : decode b_Yf_digit 3 = .ok (.invokevirtual 65, 3) := by decide +kernel
theorem d_Yf_digit_6 : decode b_Yf_digit 6 = .ok (.astore 4, 2) := by decide +kernel
theorem d_Yf_digit_8 : decode b_Yf_digit 8 = .ok (.iload_n 3, 1) := by decide +kernel
theorem d_Yf_digit_9 : decode b_Yf_digit 9 = .ok (.bipush 36, 2) := by decide +kernel
theorem d_Yf_digit_11 : decode b_Yf_digit 11 = .ok (.invokestatic 175, 3) := by decide +kernel
theorem d_Yf_digit_14 : decode b_Yf_digit 14 = .ok (.aload 4, 2) := by decide +kernel
theorem d_Yf_digit_16 : decode b_Yf_digit 16 = .ok (.iload_n 2, 1) := by decide +kernel
theorem d_Yf_digit_17 : decode b_Yf_digit 17 = .ok (.aload_n 0, 1) := by decide +kernel
theorem d_Yf_digit_18 : decode b_Yf_digit 18 = .ok (.getfield 34, 3) := by decide +kernel
theorem d_Yf_digit_21 : decode b_Yf_digit 21 = .ok (.invokevirtual 71, 3) := by decide +kernel
theorem d_Yf_digit_24 : decode b_Yf_digit 24 = .ok (.aload_n 0, 1) := by decide +kernel
theorem d_Yf_digit_25 : decode b_Yf_digit 25 = .ok (.getfield 34, 3) := by decide +kernel
theorem d_Yf_digit_28 : decode b_Yf_digit 28 = .ok (.iload_n 3, 1) := by decide +kernel
