theorem d_Yf_digit_29 : decode b_Yf_digit 29 = .ok (.invokevirtual 178, 3) := by decide +kernel
theorem d_Yf_digit_32 : decode b_Yf_digit 32 = .ok (.ireturn, 1) := by decide +kernel
theorem d_Yf_total_0 : decode b_Yf_total 0 = .ok (.aload_n 0, 1) := by decide +kernel
theorem d_Yf_total_1 : decode b_Yf_total 1 = .ok (.iload_n 1, 1) := by decide +kernel
theorem d_Yf_total_2 : decode b_Yf_total 2 = .ok (.invokevirtual 86, 3) := by decide +kernel
theorem d_Yf_total_5 : decode b_Yf_total 5 = .ok (.astore_n 3, 1) := by decide +kernel
theorem d_Yf_total_6 : decode b_Yf_total 6 = .ok (.iload_n 2, 1) := by decide +kernel
theorem d_Yf_total_7 : decode b_Yf_total 7 = .ok (.bipush 38, 2) := by decide +kernel
theorem d_Yf_total_9 : decode b_Yf_total 9 = .ok (.invokestatic 175, 3) := by decide +kernel
theorem d_Yf_total_12 : decode b_Yf_total 12 = .ok (.aload_n 3, 1) := by decide +kernel
theorem d_Yf_total_13 : decode b_Yf_total 13 = .ok (.aload_n 0, 1) := by decide +kernel
theorem d_Yf_total_14 : decode b_Yf_total 14 = .ok (.getfield 34, 3) := by decide +kernel
theorem d_Yf_total_17 : decode b_Yf_total 17 = .ok (.aload_n 0, 1) := by decide +kernel
theorem d_Yf_total_18 : decode b_Yf_total 18 = .ok (.getfield 38, 3) := by decide +kernel
theorem d_Yf_total_21 : decode b_Yf_total 21 = .ok (.invokestatic 133, 3) := by decide +kernel
theorem d_Yf_total_24 : decode b_Yf_total 24 = .ok (.aload_n 0, 1) := by decide +kernel
theorem d_Yf_total_25 : decode b_Yf_total 25 = .ok (.getfield 34, 3) := by decide +kernel
theorem d_Yf_total_28 : decode b_Yf_total 28 = .ok (.iload_n 2, 1) := by decide +kernel
theorem d_Yf_total_29 : decode b_Yf_total 29 = .ok (.invokevirtual 178, 3) := by decide +kernel
theorem d_Yf_total_32 : decode b_Yf_total 32 = .ok (.ireturn, 1) := by decide +kernel
theorem d_Yf_compare_0 : decode b_Yf_compare 0 = .ok (.aload_n 0, 1) := by decide +kernel
theorem d_Yf_compare_1 : decode b_Yf_compare 1 = .ok (.iload_n 1, 1) := by decide +kernel
theorem d_Yf_compare_2 : decode b_Yf_compare 2 = .ok (.iload_n 2, 1) := by decide +kernel
theorem d_Yf_compare_3 : decode b_Yf_compare 3 = .ok (.invokevirtual 65, 3) := by decide +kernel
theorem d_Yf_compare_6 : decode b_Yf_compare 6 = .ok (.iload_n 2, 1) := by decide +kernel
theorem d_Yf_compare_7 : decode b_Yf_compare 7 = .ok (.aload_n 0, 1) := by decide +kernel
theorem d_Yf_compare_8 : decode b_Yf_compare 8 = .ok (.getfield 34, 3) := by decide +kernel
theorem d_Yf_compare_11 : decode b_Yf_compare 11 = .ok (.invokevirtual 71, 3) := by decide +kernel
theorem d_Yf_compare_14 : decode b_Yf_compare 14 = .ok (.aload_n 0, 1) := by decide +kernel
theorem d_Yf_compare_15 : decode b_Yf_compare 15 = .ok (.iload_n 3, 1) := by decide +kernel
theorem d_Yf_compare_16 : decode b_Yf_compare 16 = .ok (.iload 4, 2) := by decide +kernel
theorem d_Yf_compare_18 : decode b_Yf_compare 18 = .ok (.invokevirtual 65, 3) := by decide +kernel
theorem d_Yf_compare_21 : decode b_Yf_compare 21 = .ok (.iload 4, 2) := by decide +kernel
theorem d_Yf_compare_23 : decode b_Yf_compare 23 = .ok (.aload_n 0, 1) := by decide +kernel
theorem d_Yf_compare_24 : decode b_Yf_compare 24 = .ok (.getfield 38, 3) := by decide +kernel
theorem d_Yf_compare_27 : decode b_Yf_compare 27 = .ok (.invokevirtual 71, 3) := by decide +kernel
theorem d_Yf_compare_30 : decode b_Yf_compare 30 = .ok (.aload_n 0, 1) := by decide +kernel
theorem d_Yf_compare_31 : decode b_Yf_compare 31 = .ok (.getfield 34, 3) := by decide +kernel
theorem d_Yf_compare_34 : decode b_Yf_compare 34 = .ok (.aload_n 0, 1) := by decide +kernel
theorem d_Yf_compare_35 : decode b_Yf_compare 35 = .ok (.getfield 38, 3) := by decide +kernel
theorem d_Yf_compare_38 : decode b_Yf_compare 38 = .ok (.invokevirtual 82, 3) := by decide +kernel
theorem d_Yf_compare_41 : decode b_Yf_compare 41 = .ok (.ireturn, 1) := by decide +kernel
theorem d_Yf_about_0 : decode b_Yf_about 0 = .ok (.aload_n 0, 1) := by decide +kernel
theorem d_Yf_about_1 : decode b_Yf_about 1 = .ok (.iload_n 1, 1) := by decide +kernel
theorem d_Yf_about_2 : decode b_Yf_about 2 = .ok (.invokevirtual 86, 3) := by decide +kernel
theorem d_Yf_about_5 : decode b_Yf_about 5 = .ok (.astore_n 3, 1) := by decide +kernel
theorem d_Yf_about_6 : decode b_Yf_about 6 = .ok (.iload_n 2, 1) := by decide +kernel
theorem d_Yf_about_7 : decode b_Yf_about 7 = .ok (.tableswitch 41 0 2 #[25, 30, 35], 25) := by decide +kernel
theorem d_Yf_about_32 : decode b_Yf_about 32 = .ok (.aload_n 3, 1) := by decide +kernel
theorem d_Yf_about_33 : decode b_Yf_about 33 = .ok (.getfield 90, 3) := by decide +kernel
theorem d_Yf_about_36 : decode b_Yf_about 36 = .ok (.ireturn, 1) := by decide +kernel
theorem d_Yf_about_37 : decode b_Yf_about 37 = .ok (.aload_n 3, 1) := by decide +kernel
theorem d_Yf_about_38 : decode b_Yf_about 38 = .ok (.invokevirtual 99, 3) := by decide +kernel
theorem d_Yf_about_41 : decode b_Yf_about 41 = .ok (.ireturn, 1) := by decide +kernel
theorem d_Yf_about_42 : decode b_Yf_about 42 = .ok (.aload_n 0, 1) := by decide +kernel
theorem d_Yf_about_43 : decode b_Yf_about 43 = .ok (.aload_n 3, 1) := by decide +kernel
theorem d_Yf_about_44 : decode b_Yf_about 44 = .ok (.invokevirtual 182, 3) := by decide +kernel
theorem d_Yf_about_47 : decode b_Yf_about 47 = .ok (.ireturn, 1) := by decide +kernel
theorem d_Yf_about_48 : decode b_Yf_about 48 = .ok (.new 48, 3) := by decide +kernel
theorem d_Yf_about_51 : decode b_Yf_about 51 = .ok (.dup, 1) := by decide +kernel
theorem d_Yf_about_52 : decode b_Yf_about 52 = .ok (.ldc 186, 2) := by decide +kernel
theorem d_Yf_about_54 : decode b_Yf_about 54 = .ok (.invokespecial 52, 3) := by decide +kernel
theorem d_Yf_about_57 : decode b_Yf_about 57 = .ok (.athrow, 1) := by decide +kernel
theorem d_Yf_over_0 : decode b_Yf_over 0 = .ok (.lload_n 3, 1) := by decide +kernel
theorem d_Yf_over_1 : decode b_Yf_over 1 = .ok (.lconst 0, 1) := by decide +kernel
theorem d_Yf_over_2 : decode b_Yf_over 2 = .ok (.lcmp, 1) := by decide +kernel
theorem d_Yf_over_3 : decode b_Yf_over 3 = .ok (.ifCond .ne 13, 3) := by decide +kernel
theorem d_Yf_over_6 : decode b_Yf_over 6 = .ok (.new 141, 3) := by decide +kernel
theorem d_Yf_over_9 : decode b_Yf_over 9 = .ok (.dup, 1) := by decide +kernel
theorem d_Yf_over_10 : decode b_Yf_over 10 = .ok (.ldc 188, 2) := by decide +kernel
theorem d_Yf_over_12 : decode b_Yf_over 12 = .ok (.invokespecial 145, 3) := by decide +kernel
theorem d_Yf_over_15 : decode b_Yf_over 15 = .ok (.athrow, 1) := by decide +kernel
theorem d_Yf_over_16 : decode b_Yf_over 16 = .ok (.lload_n 1, 1) := by decide +kernel
theorem d_Yf_over_17 : decode b_Yf_over 17 = .ok (.lload_n 3, 1) := by decide +kernel
theorem d_Yf_over_18 : decode b_Yf_over 18 = .ok (.ldiv, 1) := by decide +kernel
theorem d_Yf_over_19 : decode b_Yf_over 19 = .ok (.lreturn, 1) := by decide +kernel
theorem d_Yf_written_0 : decode b_Yf_written 0 = .ok (.iload_n 1, 1) := by decide +kernel
theorem d_Yf_written_1 : decode b_Yf_written 1 = .ok (.ifCond .le 8, 3) := by decide +kernel
theorem d_Yf_written_4 : decode b_Yf_written 4 = .ok (.iload_n 1, 1) := by decide +kernel
theorem d_Yf_written_5 : decode b_Yf_written 5 = .ok (.i2l, 1) := by decide +kernel
theorem d_Yf_written_6 : decode b_Yf_written 6 = .ok (.goto 7, 3) := by decide +kernel
theorem d_Yf_written_9 : decode b_Yf_written 9 = .ok (.iload_n 1, 1) := by decide +kernel
theorem d_Yf_written_10 : decode b_Yf_written 10 = .ok (.i2l, 1) := by decide +kernel
theorem d_Yf_written_11 : decode b_Yf_written 11 = .ok (.lconst 1, 1) := by decide +kernel
theorem d_Yf_written_12 : decode b_Yf_written 12 = .ok (.lsub, 1) := by decide +kernel
theorem d_Yf_written_13 : decode b_Yf_written 13 = .ok (.lreturn, 1) := by decide +kernel
theorem d_Yf_day_0 : decode b_Yf_day 0 = .ok (.iload_n 1, 1) := by decide +kernel
theorem d_Yf_day_1 : decode b_Yf_day 1 = .ok (.invokestatic 190, 3) := by decide +kernel
theorem d_Yf_day_4 : decode b_Yf_day 4 = .ok (.iload_n 2, 1) := by decide +kernel
theorem d_Yf_day_5 : decode b_Yf_day 5 = .ok (.sipush (-9999), 3) := by decide +kernel
theorem d_Yf_day_8 : decode b_Yf_day 8 = .ok (.if_icmp .lt 10, 3) := by decide +kernel
theorem d_Yf_day_11 : decode b_Yf_day 11 = .ok (.iload_n 2, 1) := by decide +kernel
theorem d_Yf_day_12 : decode b_Yf_day 12 = .ok (.sipush 9999, 3) := by decide +kernel
theorem d_Yf_day_15 : decode b_Yf_day 15 = .ok (.if_icmp .le 13, 3) := by decide +kernel
theorem d_Yf_day_18 : decode b_Yf_day 18 = .ok (.new 48, 3) := by decide +kernel
theorem d_Yf_day_21 : decode b_Yf_day 21 = .ok (.dup, 1) := by decide +kernel
theorem d_Yf_day_22 : decode b_Yf_day 22 = .ok (.ldc 55, 2) := by decide +kernel
theorem d_Yf_day_24 : decode b_Yf_day 24 = .ok (.invokespecial 52, 3) := by decide +kernel
theorem d_Yf_day_27 : decode b_Yf_day 27 = .ok (.athrow, 1) := by decide +kernel
theorem d_Yf_day_28 : decode b_Yf_day 28 = .ok (.iload_n 3, 1) := by decide +kernel
theorem d_Yf_day_29 : decode b_Yf_day 29 = .ok (.iconst 1, 1) := by decide +kernel
theorem d_Yf_day_30 : decode b_Yf_day 30 = .ok (.if_icmp .lt 11, 3) := by decide +kernel
theorem d_Yf_day_33 : decode b_Yf_day 33 = .ok (.iload_n 3, 1) := by decide +kernel
theorem d_Yf_day_34 : decode b_Yf_day 34 = .ok (.iload_n 1, 1) := by decide +kernel
theorem d_Yf_day_35 : decode b_Yf_day 35 = .ok (.invokestatic 194, 3) := by decide +kernel
theorem d_Yf_day_38 : decode b_Yf_day 38 = .ok (.if_icmp .le 13, 3) := by decide +kernel
theorem d_Yf_day_41 : decode b_Yf_day 41 = .ok (.new 48, 3) := by decide +kernel
theorem d_Yf_day_44 : decode b_Yf_day 44 = .ok (.dup, 1) := by decide +kernel
theorem d_Yf_day_45 : decode b_Yf_day 45 = .ok (.ldc 199, 2) := by decide +kernel
theorem d_Yf_day_47 : decode b_Yf_day 47 = .ok (.invokespecial 52, 3) := by decide +kernel
theorem d_Yf_day_50 : decode b_Yf_day 50 = .ok (.athrow, 1) := by decide +kernel
theorem d_Yf_day_51 : decode b_Yf_day 51 = .ok (.iload 4, 2) := by decide +kernel
theorem d_Yf_day_53 : decode b_Yf_day 53 = .ok (.iconst 1, 1) := by decide +kernel
theorem d_Yf_day_54 : decode b_Yf_day 54 = .ok (.if_icmp .lt 14, 3) := by decide +kernel
theorem d_Yf_day_57 : decode b_Yf_day 57 = .ok (.iload 4, 2) := by decide +kernel
theorem d_Yf_day_59 : decode b_Yf_day 59 = .ok (.iload_n 1, 1) := by decide +kernel
theorem d_Yf_day_60 : decode b_Yf_day 60 = .ok (.iload_n 2, 1) := by decide +kernel
theorem d_Yf_day_61 : decode b_Yf_day 61 = .ok (.iload_n 3, 1) := by decide +kernel
theorem d_Yf_day_62 : decode b_Yf_day 62 = .ok (.invokestatic 201, 3) := by decide +kernel
theorem d_Yf_day_65 : decode b_Yf_day 65 = .ok (.if_icmp .le 13, 3) := by decide +kernel
theorem d_Yf_day_68 : decode b_Yf_day 68 = .ok (.new 48, 3) := by decide +kernel
theorem d_Yf_day_71 : decode b_Yf_day 71 = .ok (.dup, 1) := by decide +kernel
theorem d_Yf_day_72 : decode b_Yf_day 72 = .ok (.ldc 205, 2) := by decide +kernel
theorem d_Yf_day_74 : decode b_Yf_day 74 = .ok (.invokespecial 52, 3) := by decide +kernel
theorem d_Yf_day_77 : decode b_Yf_day 77 = .ok (.athrow, 1) := by decide +kernel
theorem d_Yf_day_78 : decode b_Yf_day 78 = .ok (.iload_n 1, 1) := by decide +kernel
theorem d_Yf_day_79 : decode b_Yf_day 79 = .ok (.iload_n 2, 1) := by decide +kernel
theorem d_Yf_day_80 : decode b_Yf_day 80 = .ok (.invokestatic 207, 3) := by decide +kernel
theorem d_Yf_day_83 : decode b_Yf_day 83 = .ok (.iload_n 1, 1) := by decide +kernel
theorem d_Yf_day_84 : decode b_Yf_day 84 = .ok (.iload_n 2, 1) := by decide +kernel
theorem d_Yf_day_85 : decode b_Yf_day 85 = .ok (.iload_n 3, 1) := by decide +kernel
theorem d_Yf_day_86 : decode b_Yf_day 86 = .ok (.invokestatic 210, 3) := by decide +kernel
theorem d_Yf_day_89 : decode b_Yf_day 89 = .ok (.iadd, 1) := by decide +kernel
theorem d_Yf_day_90 : decode b_Yf_day 90 = .ok (.iload 4, 2) := by decide +kernel
theorem d_Yf_day_92 : decode b_Yf_day 92 = .ok (.iconst 1, 1) := by decide +kernel
theorem d_Yf_day_93 : decode b_Yf_day 93 = .ok (.isub, 1) := by decide +kernel
theorem d_Yf_day_94 : decode b_Yf_day 94 = .ok (.iadd, 1) := by decide +kernel
theorem d_Yf_day_95 : decode b_Yf_day 95 = .ok (.ireturn, 1) := by decide +kernel
theorem d_Yf_date_0 : decode b_Yf_date 0 = .ok (.iload_n 1, 1) := by decide +kernel
theorem d_Yf_date_1 : decode b_Yf_date 1 = .ok (.invokestatic 190, 3) := by decide +kernel
theorem d_Yf_date_4 : decode b_Yf_date 4 = .ok (.iload_n 3, 1) := by decide +kernel
theorem d_Yf_date_5 : decode b_Yf_date 5 = .ok (.ifCond .lt 8, 3) := by decide +kernel
theorem d_Yf_date_8 : decode b_Yf_date 8 = .ok (.iload_n 3, 1) := by decide +kernel
theorem d_Yf_date_9 : decode b_Yf_date 9 = .ok (.iconst 2, 1) := by decide +kernel
theorem d_Yf_date_10 : decode b_Yf_date 10 = .ok (.if_icmp .le 13, 3) := by decide +kernel
theorem d_Yf_date_13 : decode b_Yf_date 13 = .ok (.new 48, 3) := by decide +kernel
theorem d_Yf_date_16 : decode b_Yf_date 16 = .ok (.dup, 1) := by decide +kernel
theorem d_Yf_date_17 : decode b_Yf_date 17 = .ok (.ldc 213, 2) := by decide +kernel
theorem d_Yf_date_19 : decode b_Yf_date 19 = .ok (.invokespecial 52, 3) := by decide +kernel
theorem d_Yf_date_22 : decode b_Yf_date 22 = .ok (.athrow, 1) := by decide +kernel
theorem d_Yf_date_23 : decode b_Yf_date 23 = .ok (.iload_n 2, 1) := by decide +kernel
theorem d_Yf_date_24 : decode b_Yf_date 24 = .ok (.ldc 215, 2) := by decide +kernel
theorem d_Yf_date_26 : decode b_Yf_date 26 = .ok (.if_icmp .lt 9, 3) := by decide +kernel
theorem d_Yf_date_29 : decode b_Yf_date 29 = .ok (.iload_n 2, 1) := by decide +kernel
theorem d_Yf_date_30 : decode b_Yf_date 30 = .ok (.ldc 216, 2) := by decide +kernel
theorem d_Yf_date_32 : decode b_Yf_date 32 = .ok (.if_icmp .le 13, 3) := by decide +kernel
theorem d_Yf_date_35 : decode b_Yf_date 35 = .ok (.new 48, 3) := by decide +kernel
theorem d_Yf_date_38 : decode b_Yf_date 38 = .ok (.dup, 1) := by decide +kernel
theorem d_Yf_date_39 : decode b_Yf_date 39 = .ok (.ldc 217, 2) := by decide +kernel
theorem d_Yf_date_41 : decode b_Yf_date 41 = .ok (.invokespecial 52, 3) := by decide +kernel
theorem d_Yf_date_44 : decode b_Yf_date 44 = .ok (.athrow, 1) := by decide +kernel
theorem d_Yf_date_45 : decode b_Yf_date 45 = .ok (.iload_n 1, 1) := by decide +kernel
theorem d_Yf_date_46 : decode b_Yf_date 46 = .ok (.iload_n 2, 1) := by decide +kernel
theorem d_Yf_date_47 : decode b_Yf_date 47 = .ok (.invokestatic 219, 3) := by decide +kernel
theorem d_Yf_date_50 : decode b_Yf_date 50 = .ok (.istore 4, 2) := by decide +kernel
theorem d_Yf_date_52 : decode b_Yf_date 52 = .ok (.iload_n 3, 1) := by decide +kernel
theorem d_Yf_date_53 : decode b_Yf_date 53 = .ok (.ifCond .ne 6, 3) := by decide +kernel
theorem d_Yf_date_56 : decode b_Yf_date 56 = .ok (.iload 4, 2) := by decide +kernel
theorem d_Yf_date_58 : decode b_Yf_date 58 = .ok (.ireturn, 1) := by decide +kernel
theorem d_Yf_date_59 : decode b_Yf_date 59 = .ok (.iload_n 1, 1) := by decide +kernel
theorem d_Yf_date_60 : decode b_Yf_date 60 = .ok (.iload 4, 2) := by decide +kernel
theorem d_Yf_date_62 : decode b_Yf_date 62 = .ok (.iload_n 2, 1) := by decide +kernel
theorem d_Yf_date_63 : decode b_Yf_date 63 = .ok (.invokestatic 222, 3) := by decide +kernel
theorem d_Yf_date_66 : decode b_Yf_date 66 = .ok (.istore 5, 2) := by decide +kernel
theorem d_Yf_date_68 : decode b_Yf_date 68 = .ok (.iload_n 3, 1) := by decide +kernel
theorem d_Yf_date_69 : decode b_Yf_date 69 = .ok (.iconst 1, 1) := by decide +kernel
theorem d_Yf_date_70 : decode b_Yf_date 70 = .ok (.if_icmp .ne 6, 3) := by decide +kernel
theorem d_Yf_date_73 : decode b_Yf_date 73 = .ok (.iload 5, 2) := by decide +kernel
theorem d_Yf_date_75 : decode b_Yf_date 75 = .ok (.ireturn, 1) := by decide +kernel
theorem d_Yf_date_76 : decode b_Yf_date 76 = .ok (.iload_n 2, 1) := by decide +kernel
theorem d_Yf_date_77 : decode b_Yf_date 77 = .ok (.iload_n 1, 1) := by decide +kernel
theorem d_Yf_date_78 : decode b_Yf_date 78 = .ok (.iload 4, 2) := by decide +kernel
theorem d_Yf_date_80 : decode b_Yf_date 80 = .ok (.invokestatic 207, 3) := by decide +kernel
theorem d_Yf_date_83 : decode b_Yf_date 83 = .ok (.isub, 1) := by decide +kernel
theorem d_Yf_date_84 : decode b_Yf_date 84 = .ok (.iload_n 1, 1) := by decide +kernel
theorem d_Yf_date_85 : decode b_Yf_date 85 = .ok (.iload 4, 2) := by decide +kernel
theorem d_Yf_date_87 : decode b_Yf_date 87 = .ok (.iload 5, 2) := by decide +kernel
theorem d_Yf_date_89 : decode b_Yf_date 89 = .ok (.invokestatic 210, 3) := by decide +kernel
theorem d_Yf_date_92 : decode b_Yf_date 92 = .ok (.isub, 1) := by decide +kernel
theorem d_Yf_date_93 : decode b_Yf_date 93 = .ok (.iconst 1, 1) := by decide +kernel
theorem d_Yf_date_94 : decode b_Yf_date 94 = .ok (.iadd, 1) := by decide +kernel
theorem d_Yf_date_95 : decode b_Yf_date 95 = .ok (.ireturn, 1) := by decide +kernel
theorem d_Yf_clear_0 : decode b_Yf_clear 0 = .ok (.aload_n 0, 1) := by decide +kernel
theorem d_Yf_clear_1 : decode b_Yf_clear 1 = .ok (.getfield 16, 3) := by decide +kernel
theorem d_Yf_clear_4 : decode b_Yf_clear 4 = .ok (.istore_n 1, 1) := by decide +kernel
theorem d_Yf_clear_5 : decode b_Yf_clear 5 = .ok (.aload_n 0, 1) := by decide +kernel
theorem d_Yf_clear_6 : decode b_Yf_clear 6 = .ok (.iconst 0, 1) := by decide +kernel
theorem d_Yf_clear_7 : decode b_Yf_clear 7 = .ok (.putfield 16, 3) := by decide +kernel
theorem d_Yf_clear_10 : decode b_Yf_clear 10 = .ok (.aload_n 0, 1) := by decide +kernel
theorem d_Yf_clear_11 : decode b_Yf_clear 11 = .ok (.lconst 0, 1) := by decide +kernel
theorem d_Yf_clear_12 : decode b_Yf_clear 12 = .ok (.putfield 20, 3) := by decide +kernel
theorem d_Yf_clear_15 : decode b_Yf_clear 15 = .ok (.aload_n 0, 1) := by decide +kernel
theorem d_Yf_clear_16 : decode b_Yf_clear 16 = .ok (.getfield 27, 3) := by decide +kernel
theorem d_Yf_clear_19 : decode b_Yf_clear 19 = .ok (.iconst 0, 1) := by decide +kernel
theorem d_Yf_clear_20 : decode b_Yf_clear 20 = .ok (.putfield 158, 3) := by decide +kernel
theorem d_Yf_clear_23 : decode b_Yf_clear 23 = .ok (.iload_n 1, 1) := by decide +kernel
theorem d_Yf_clear_24 : decode b_Yf_clear 24 = .ok (.ireturn, 1) := by decide +kernel
theorem d_Yf_knownRow_0 : decode b_Yf_knownRow 0 = .ok (.iload_n 1, 1) := by decide +kernel
theorem d_Yf_knownRow_1 : decode b_Yf_knownRow 1 = .ok (.ifCond .lt 11, 3) := by decide +kernel
theorem d_Yf_knownRow_4 : decode b_Yf_knownRow 4 = .ok (.iload_n 1, 1) := by decide +kernel
theorem d_Yf_knownRow_5 : decode b_Yf_knownRow 5 = .ok (.aload_n 0, 1) := by decide +kernel
theorem d_Yf_knownRow_6 : decode b_Yf_knownRow 6 = .ok (.getfield 16, 3) := by decide +kernel
theorem d_Yf_knownRow_9 : decode b_Yf_knownRow 9 = .ok (.if_icmp .lt 13, 3) := by decide +kernel
theorem d_Yf_knownRow_12 : decode b_Yf_knownRow 12 = .ok (.new 161, 3) := by decide +kernel
theorem d_Yf_knownRow_15 : decode b_Yf_knownRow 15 = .ok (.dup, 1) := by decide +kernel
theorem d_Yf_knownRow_16 : decode b_Yf_knownRow 16 = .ok (.ldc 225, 2) := by decide +kernel
theorem d_Yf_knownRow_18 : decode b_Yf_knownRow 18 = .ok (.invokespecial 165, 3) := by decide +kernel
theorem d_Yf_knownRow_21 : decode b_Yf_knownRow 21 = .ok (.athrow, 1) := by decide +kernel
theorem d_Yf_knownRow_22 : decode b_Yf_knownRow 22 = .ok (.aload_n 0, 1) := by decide +kernel
theorem d_Yf_knownRow_23 : decode b_Yf_knownRow 23 = .ok (.getfield 11, 3) := by decide +kernel
theorem d_Yf_knownRow_26 : decode b_Yf_knownRow 26 = .ok (.iload_n 1, 1) := by decide +kernel
theorem d_Yf_knownRow_27 : decode b_Yf_knownRow 27 = .ok (.aaload, 1) := by decide +kernel
theorem d_Yf_knownRow_28 : decode b_Yf_knownRow 28 = .ok (.areturn, 1) := by decide +kernel
theorem d_Yf_knownRowWith_0 : decode b_Yf_knownRowWith 0 = .ok (.aload_n 0, 1) := by decide +kernel
theorem d_Yf_knownRowWith_1 : decode b_Yf_knownRowWith 1 = .ok (.iload_n 1, 1) := by decide +kernel
theorem d_Yf_knownRowWith_2 : decode b_Yf_knownRowWith 2 = .ok (.invokevirtual 86, 3) := by decide +kernel
theorem d_Yf_knownRowWith_5 : decode b_Yf_knownRowWith 5 = .ok (.astore_n 3, 1) := by decide +kernel
theorem d_Yf_knownRowWith_6 : decode b_Yf_knownRowWith 6 = .ok (.aload_n 3, 1) := by decide +kernel
theorem d_Yf_knownRowWith_7 : decode b_Yf_knownRowWith 7 = .ok (.iload_n 2, 1) := by decide +kernel
theorem d_Yf_knownRowWith_8 : decode b_Yf_knownRowWith 8 = .ok (.invokevirtual 227, 3) := by decide +kernel
theorem d_Yf_knownRowWith_11 : decode b_Yf_knownRowWith 11 = .ok (.ifCond .ne 13, 3) := by decide +kernel
theorem d_Yf_knownRowWith_14 : decode b_Yf_knownRowWith 14 = .ok (.new 161, 3) := by decide +kernel
theorem d_Yf_knownRowWith_17 : decode b_Yf_knownRowWith 17 = .ok (.dup, 1) := by decide +kernel
theorem d_Yf_knownRowWith_18 : decode b_Yf_knownRowWith 18 = .ok (.ldc 231, 2) := by decide +kernel
theorem d_Yf_knownRowWith_20 : decode b_Yf_knownRowWith 20 = .ok (.invokespecial 165, 3) := by decide +kernel
theorem d_Yf_knownRowWith_23 : decode b_Yf_knownRowWith 23 = .ok (.athrow, 1) := by decide +kernel
theorem d_Yf_knownRowWith_24 : decode b_Yf_knownRowWith 24 = .ok (.aload_n 3, 1) := by decide +kernel
theorem d_Yf_knownRowWith_25 : decode b_Yf_knownRowWith 25 = .ok (.areturn, 1) := by decide +kernel
theorem d_Yf_freeRow_0 : decode b_Yf_freeRow 0 = .ok (.aload_n 0, 1) := by decide +kernel
theorem d_Yf_freeRow_1 : decode b_Yf_freeRow 1 = .ok (.getfield 16, 3) := by decide +kernel
theorem d_Yf_freeRow_4 : decode b_Yf_freeRow 4 = .ok (.bipush 8, 2) := by decide +kernel
theorem d_Yf_freeRow_6 : decode b_Yf_freeRow 6 = .ok (.if_icmp .lt 13, 3) := by decide +kernel
theorem d_Yf_freeRow_9 : decode b_Yf_freeRow 9 = .ok (.new 233, 3) := by decide +kernel
theorem d_Yf_freeRow_12 : decode b_Yf_freeRow 12 = .ok (.dup, 1) := by decide +kernel
theorem d_Yf_freeRow_13 : decode b_Yf_freeRow 13 = .ok (.ldc 235, 2) := by decide +kernel
theorem d_Yf_freeRow_15 : decode b_Yf_freeRow 15 = .ok (.invokespecial 237, 3) := by decide +kernel
theorem d_Yf_freeRow_18 : decode b_Yf_freeRow 18 = .ok (.athrow, 1) := by decide +kernel
theorem d_Yf_freeRow_19 : decode b_Yf_freeRow 19 = .ok (.aload_n 0, 1) := by decide +kernel
theorem d_Yf_freeRow_20 : decode b_Yf_freeRow 20 = .ok (.getfield 11, 3) := by decide +kernel
theorem d_Yf_freeRow_23 : decode b_Yf_freeRow 23 = .ok (.aload_n 0, 1) := by decide +kernel
theorem d_Yf_freeRow_24 : decode b_Yf_freeRow 24 = .ok (.getfield 16, 3) := by decide +kernel
theorem d_Yf_freeRow_27 : decode b_Yf_freeRow 27 = .ok (.aaload, 1) := by decide +kernel
theorem d_Yf_freeRow_28 : decode b_Yf_freeRow 28 = .ok (.areturn, 1) := by decide +kernel
theorem d_Yf_keepFreeRow_0 : decode b_Yf_keepFreeRow 0 = .ok (.aload_n 0, 1) := by decide +kernel
theorem d_Yf_keepFreeRow_1 : decode b_Yf_keepFreeRow 1 = .ok (.getfield 16, 3) := by decide +kernel
theorem d_Yf_keepFreeRow_4 : decode b_Yf_keepFreeRow 4 = .ok (.istore_n 1, 1) := by decide +kernel
theorem d_Yf_keepFreeRow_5 : decode b_Yf_keepFreeRow 5 = .ok (.aload_n 0, 1) := by decide +kernel
theorem d_Yf_keepFreeRow_6 : decode b_Yf_keepFreeRow 6 = .ok (.dup, 1) := by decide +kernel
theorem d_Yf_keepFreeRow_7 : decode b_Yf_keepFreeRow 7 = .ok (.getfield 16, 3) := by decide +kernel
theorem d_Yf_keepFreeRow_10 : decode b_Yf_keepFreeRow 10 = .ok (.iconst 1, 1) := by decide +kernel
theorem d_Yf_keepFreeRow_11 : decode b_Yf_keepFreeRow 11 = .ok (.iadd, 1) := by decide +kernel
theorem d_Yf_keepFreeRow_12 : decode b_Yf_keepFreeRow 12 = .ok (.putfield 16, 3) := by decide +kernel
theorem d_Yf_keepFreeRow_15 : decode b_Yf_keepFreeRow 15 = .ok (.iload_n 1, 1) := by decide +kernel
theorem d_Yf_keepFreeRow_16 : decode b_Yf_keepFreeRow 16 = .ok (.ireturn, 1) := by decide +kernel
theorem d_Yf_requireDigit_0 : decode b_Yf_requireDigit 0 = .ok (.iload_n 0, 1) := by decide +kernel
theorem d_Yf_requireDigit_1 : decode b_Yf_requireDigit 1 = .ok (.ifCond .lt 8, 3) := by decide +kernel
theorem d_Yf_requireDigit_4 : decode b_Yf_requireDigit 4 = .ok (.iload_n 0, 1) := by decide +kernel
theorem d_Yf_requireDigit_5 : decode b_Yf_requireDigit 5 = .ok (.iload_n 1, 1) := by decide +kernel
theorem d_Yf_requireDigit_6 : decode b_Yf_requireDigit 6 = .ok (.if_icmp .lt 13, 3) := by decide +kernel
theorem d_Yf_requireDigit_9 : decode b_Yf_requireDigit 9 = .ok (.new 161, 3) := by decide +kernel
theorem d_Yf_requireDigit_12 : decode b_Yf_requireDigit 12 = .ok (.dup, 1) := by decide +kernel
theorem d_Yf_requireDigit_13 : decode b_Yf_requireDigit 13 = .ok (.ldc 238, 2) := by decide +kernel
theorem d_Yf_requireDigit_15 : decode b_Yf_requireDigit 15 = .ok (.invokespecial 165, 3) := by decide +kernel
theorem d_Yf_requireDigit_18 : decode b_Yf_requireDigit 18 = .ok (.athrow, 1) := by decide +kernel
theorem d_Yf_requireDigit_19 : decode b_Yf_requireDigit 19 = .ok (.return_, 1) := by decide +kernel
theorem d_Yf_requireCalendar_0 : decode b_Yf_requireCalendar 0 = .ok (.iload_n 0, 1) := by decide +kernel
theorem d_Yf_requireCalendar_1 : decode b_Yf_requireCalendar 1 = .ok (.ifCond .lt 8, 3) := by decide +kernel
theorem d_Yf_requireCalendar_4 : decode b_Yf_requireCalendar 4 = .ok (.iload_n 0, 1) := by decide +kernel
theorem d_Yf_requireCalendar_5 : decode b_Yf_requireCalendar 5 = .ok (.iconst 4, 1) := by decide +kernel
theorem d_Yf_requireCalendar_6 : decode b_Yf_requireCalendar 6 = .ok (.if_icmp .lt 13, 3) := by decide +kernel
theorem d_Yf_requireCalendar_9 : decode b_Yf_requireCalendar 9 = .ok (.new 161, 3) := by decide +kernel
theorem d_Yf_requireCalendar_12 : decode b_Yf_requireCalendar 12 = .ok (.dup, 1) := by decide +kernel
theorem d_Yf_requireCalendar_13 : decode b_Yf_requireCalendar 13 = .ok (.ldc 240, 2) := by decide +kernel
theorem d_Yf_requireCalendar_15 : decode b_Yf_requireCalendar 15 = .ok (.invokespecial 165, 3) := by decide +kernel
theorem d_Yf_requireCalendar_18 : decode b_Yf_requireCalendar 18 = .ok (.athrow, 1) := by decide +kernel
theorem d_Yf_requireCalendar_19 : decode b_Yf_requireCalendar 19 = .ok (.return_, 1) := by decide +kernel
theorem d_Yf_storeWeight_0 : decode b_Yf_storeWeight 0 = .ok (.aload_n 2, 1) := by decide +kernel
theorem d_Yf_storeWeight_1 : decode b_Yf_storeWeight 1 = .ok (.invokevirtual 242, 3) := by decide +kernel
theorem d_Yf_storeWeight_4 : decode b_Yf_storeWeight 4 = .ok (.ifCond .ne 13, 3) := by decide +kernel
theorem d_Yf_storeWeight_7 : decode b_Yf_storeWeight 7 = .ok (.new 141, 3) := by decide +kernel
theorem d_Yf_storeWeight_10 : decode b_Yf_storeWeight 10 = .ok (.dup, 1) := by decide +kernel
theorem d_Yf_storeWeight_11 : decode b_Yf_storeWeight 11 = .ok (.ldc 245, 2) := by decide +kernel
theorem d_Yf_storeWeight_13 : decode b_Yf_storeWeight 13 = .ok (.invokespecial 145, 3) := by decide +kernel
theorem d_Yf_storeWeight_16 : decode b_Yf_storeWeight 16 = .ok (.athrow, 1) := by decide +kernel
theorem d_Yf_storeWeight_17 : decode b_Yf_storeWeight 17 = .ok (.aload_n 0, 1) := by decide +kernel
theorem d_Yf_storeWeight_18 : decode b_Yf_storeWeight 18 = .ok (.iload_n 1, 1) := by decide +kernel
theorem d_Yf_storeWeight_19 : decode b_Yf_storeWeight 19 = .ok (.aload_n 2, 1) := by decide +kernel
theorem d_Yf_storeWeight_20 : decode b_Yf_storeWeight 20 = .ok (.invokevirtual 79, 3) := by decide +kernel
theorem d_Yf_storeWeight_23 : decode b_Yf_storeWeight 23 = .ok (.return_, 1) := by decide +kernel
theorem d_Yf_gather_0 : decode b_Yf_gather 0 = .ok (.aload_n 1, 1) := by decide +kernel
theorem d_Yf_gather_1 : decode b_Yf_gather 1 = .ok (.lconst 0, 1) := by decide +kernel
theorem d_Yf_gather_2 : decode b_Yf_gather 2 = .ok (.invokevirtual 75, 3) := by decide +kernel
theorem d_Yf_gather_5 : decode b_Yf_gather 5 = .ok (.aload_n 0, 1) := by decide +kernel
theorem d_Yf_gather_6 : decode b_Yf_gather 6 = .ok (.getfield 90, 3) := by decide +kernel
theorem d_Yf_gather_9 : decode b_Yf_gather 9 = .ok (.istore_n 3, 1) := by decide +kernel
theorem d_Yf_gather_10 : decode b_Yf_gather 10 = .ok (.iload_n 3, 1) := by decide +kernel
theorem d_Yf_gather_11 : decode b_Yf_gather 11 = .ok (.aload_n 0, 1) := by decide +kernel
theorem d_Yf_gather_12 : decode b_Yf_gather 12 = .ok (.invokevirtual 99, 3) := by decide +kernel
theorem d_Yf_gather_15 : decode b_Yf_gather 15 = .ok (.if_icmp .gt 20, 3) := by decide +kernel
theorem d_Yf_gather_18 : decode b_Yf_gather 18 = .ok (.aload_n 0, 1) := by decide +kernel
theorem d_Yf_gather_19 : decode b_Yf_gather 19 = .ok (.iload_n 3, 1) := by decide +kernel
theorem d_Yf_gather_20 : decode b_Yf_gather 20 = .ok (.aload_n 2, 1) := by decide +kernel
theorem d_Yf_gather_21 : decode b_Yf_gather 21 = .ok (.invokevirtual 71, 3) := by decide +kernel
theorem d_Yf_gather_24 : decode b_Yf_gather 24 = .ok (.aload_n 1, 1) := by decide +kernel
theorem d_Yf_gather_25 : decode b_Yf_gather 25 = .ok (.aload_n 2, 1) := by decide +kernel
theorem d_Yf_gather_26 : decode b_Yf_gather 26 = .ok (.invokevirtual 107, 3) := by decide +kernel
theorem d_Yf_gather_29 : decode b_Yf_gather 29 = .ok (.iinc 3 1, 3) := by decide +kernel
theorem d_Yf_gather_32 : decode b_Yf_gather 32 = .ok (.goto (-22), 3) := by decide +kernel
theorem d_Yf_gather_35 : decode b_Yf_gather 35 = .ok (.return_, 1) := by decide +kernel
theorem d_Yf_countWeighted_0 : decode b_Yf_countWeighted 0 = .ok (.iconst 0, 1) := by decide +kernel
theorem d_Yf_countWeighted_1 : decode b_Yf_countWeighted 1 = .ok (.istore_n 2, 1) := by decide +kernel
theorem d_Yf_countWeighted_2 : decode b_Yf_countWeighted 2 = .ok (.aload_n 1, 1) := by decide +kernel
theorem d_Yf_countWeighted_3 : decode b_Yf_countWeighted 3 = .ok (.getfield 90, 3) := by decide +kernel
theorem d_Yf_countWeighted_6 : decode b_Yf_countWeighted 6 = .ok (.istore_n 3, 1) := by decide +kernel
theorem d_Yf_countWeighted_7 : decode b_Yf_countWeighted 7 = .ok (.iload_n 3, 1) := by decide +kernel
theorem d_Yf_countWeighted_8 : decode b_Yf_countWeighted 8 = .ok (.aload_n 1, 1) := by decide +kernel
theorem d_Yf_countWeighted_9 : decode b_Yf_countWeighted 9 = .ok (.invokevirtual 99, 3) := by decide +kernel
theorem d_Yf_countWeighted_12 : decode b_Yf_countWeighted 12 = .ok (.if_icmp .gt 31, 3) := by decide +kernel
theorem d_Yf_countWeighted_15 : decode b_Yf_countWeighted 15 = .ok (.aload_n 1, 1) := by decide +kernel
theorem d_Yf_countWeighted_16 : decode b_Yf_countWeighted 16 = .ok (.iload_n 3, 1) := by decide +kernel
theorem d_Yf_countWeighted_17 : decode b_Yf_countWeighted 17 = .ok (.aload_n 0, 1) := by decide +kernel
theorem d_Yf_countWeighted_18 : decode b_Yf_countWeighted 18 = .ok (.getfield 34, 3) := by decide +kernel
theorem d_Yf_countWeighted_21 : decode b_Yf_countWeighted 21 = .ok (.invokevirtual 71, 3) := by decide +kernel
theorem d_Yf_countWeighted_24 : decode b_Yf_countWeighted 24 = .ok (.aload_n 0, 1) := by decide +kernel
theorem d_Yf_countWeighted_25 : decode b_Yf_countWeighted 25 = .ok (.getfield 34, 3) := by decide +kernel
theorem d_Yf_countWeighted_28 : decode b_Yf_countWeighted 28 = .ok (.invokevirtual 137, 3) := by decide +kernel
theorem d_Yf_countWeighted_31 : decode b_Yf_countWeighted 31 = .ok (.ifCond .ne 6, 3) := by decide +kernel
theorem d_Yf_countWeighted_34 : decode b_Yf_countWeighted 34 = .ok (.iinc 2 1, 3) := by decide +kernel
theorem d_Yf_countWeighted_37 : decode b_Yf_countWeighted 37 = .ok (.iinc 3 1, 3) := by decide +kernel
theorem d_Yf_countWeighted_40 : decode b_Yf_countWeighted 40 = .ok (.goto (-33), 3) := by decide +kernel
theorem d_Yf_countWeighted_43 : decode b_Yf_countWeighted 43 = .ok (.iload_n 2, 1) := by decide +kernel
theorem d_Yf_countWeighted_44 : decode b_Yf_countWeighted 44 = .ok (.ireturn, 1) := by decide +kernel
theorem d_Yf_takeUntilEnough_0 : decode b_Yf_takeUntilEnough 0 = .ok (.aload_n 0, 1) := by decide +kernel
theorem d_Yf_takeUntilEnough_1 : decode b_Yf_takeUntilEnough 1 = .ok (.getfield 27, 3) := by decide +kernel
theorem d_Yf_takeUntilEnough_4 : decode b_Yf_takeUntilEnough 4 = .ok (.aload_n 1, 1) := by decide +kernel
theorem d_Yf_takeUntilEnough_5 : decode b_Yf_takeUntilEnough 5 = .ok (.invokevirtual 247, 3) := by decide +kernel
theorem d_Yf_takeUntilEnough_8 : decode b_Yf_takeUntilEnough 8 = .ok (.aload_n 0, 1) := by decide +kernel
theorem d_Yf_takeUntilEnough_9 : decode b_Yf_takeUntilEnough 9 = .ok (.getfield 38, 3) := by decide +kernel
theorem d_Yf_takeUntilEnough_12 : decode b_Yf_takeUntilEnough 12 = .ok (.lconst 0, 1) := by decide +kernel
theorem d_Yf_takeUntilEnough_13 : decode b_Yf_takeUntilEnough 13 = .ok (.invokevirtual 75, 3) := by decide +kernel
theorem d_Yf_takeUntilEnough_16 : decode b_Yf_takeUntilEnough 16 = .ok (.aload_n 0, 1) := by decide +kernel
theorem d_Yf_takeUntilEnough_17 : decode b_Yf_takeUntilEnough 17 = .ok (.getfield 34, 3) := by decide +kernel
theorem d_Yf_takeUntilEnough_20 : decode b_Yf_takeUntilEnough 20 = .ok (.lconst 0, 1) := by decide +kernel
theorem d_Yf_takeUntilEnough_21 : decode b_Yf_takeUntilEnough 21 = .ok (.invokevirtual 75, 3) := by decide +kernel
theorem d_Yf_takeUntilEnough_24 : decode b_Yf_takeUntilEnough 24 = .ok (.iconst 0, 1) := by decide +kernel
theorem d_Yf_takeUntilEnough_25 : decode b_Yf_takeUntilEnough 25 = .ok (.istore_n 3, 1) := by decide +kernel
theorem d_Yf_takeUntilEnough_26 : decode b_Yf_takeUntilEnough 26 = .ok (.iload_n 3, 1) := by decide +kernel
theorem d_Yf_takeUntilEnough_27 : decode b_Yf_takeUntilEnough 27 = .ok (.aload_n 1, 1) := by decide +kernel
theorem d_Yf_takeUntilEnough_28 : decode b_Yf_takeUntilEnough 28 = .ok (.getfield 250, 3) := by decide +kernel
theorem d_Yf_takeUntilEnough_31 : decode b_Yf_takeUntilEnough 31 = .ok (.if_icmp .ge 64, 3) := by decide +kernel
theorem d_Yf_takeUntilEnough_34 : decode b_Yf_takeUntilEnough 34 = .ok (.aload_n 0, 1) := by decide +kernel
theorem d_Yf_takeUntilEnough_35 : decode b_Yf_takeUntilEnough 35 = .ok (.getfield 34, 3) := by decide +kernel
theorem d_Yf_takeUntilEnough_38 : decode b_Yf_takeUntilEnough 38 = .ok (.aload_n 0, 1) := by decide +kernel
theorem d_Yf_takeUntilEnough_39 : decode b_Yf_takeUntilEnough 39 = .ok (.getfield 41, 3) := by decide +kernel
theorem d_Yf_takeUntilEnough_42 : decode b_Yf_takeUntilEnough 42 = .ok (.invokevirtual 82, 3) := by decide +kernel
theorem d_Yf_takeUntilEnough_45 : decode b_Yf_takeUntilEnough 45 = .ok (.ifCond .ge 50, 3) := by decide +kernel
theorem d_Yf_takeUntilEnough_48 : decode b_Yf_takeUntilEnough 48 = .ok (.aload_n 1, 1) := by decide +kernel
theorem d_Yf_takeUntilEnough_49 : decode b_Yf_takeUntilEnough 49 = .ok (.aload_n 0, 1) := by decide +kernel
theorem d_Yf_takeUntilEnough_50 : decode b_Yf_takeUntilEnough 50 = .ok (.getfield 27, 3) := by decide +kernel
theorem d_Yf_takeUntilEnough_53 : decode b_Yf_takeUntilEnough 53 = .ok (.aload_n 1, 1) := by decide +kernel
theorem d_Yf_takeUntilEnough_54 : decode b_Yf_takeUntilEnough 54 = .ok (.iload_n 3, 1) := by decide +kernel
theorem d_Yf_takeUntilEnough_55 : decode b_Yf_takeUntilEnough 55 = .ok (.invokevirtual 253, 3) := by decide +kernel
theorem d_Yf_takeUntilEnough_58 : decode b_Yf_takeUntilEnough 58 = .ok (.aload_n 0, 1) := by decide +kernel
theorem d_Yf_takeUntilEnough_59 : decode b_Yf_takeUntilEnough 59 = .ok (.getfield 34, 3) := by decide +kernel
theorem d_Yf_takeUntilEnough_62 : decode b_Yf_takeUntilEnough 62 = .ok (.invokevirtual 71, 3) := by decide +kernel
theorem d_Yf_takeUntilEnough_65 : decode b_Yf_takeUntilEnough 65 = .ok (.aload_n 0, 1) := by decide +kernel
theorem d_Yf_takeUntilEnough_66 : decode b_Yf_takeUntilEnough 66 = .ok (.getfield 38, 3) := by decide +kernel
theorem d_Yf_takeUntilEnough_69 : decode b_Yf_takeUntilEnough 69 = .ok (.aload_n 0, 1) := by decide +kernel
theorem d_Yf_takeUntilEnough_70 : decode b_Yf_takeUntilEnough 70 = .ok (.getfield 34, 3) := by decide +kernel
theorem d_Yf_takeUntilEnough_73 : decode b_Yf_takeUntilEnough 73 = .ok (.invokevirtual 107, 3) := by decide +kernel
theorem d_Yf_takeUntilEnough_76 : decode b_Yf_takeUntilEnough 76 = .ok (.aload_n 0, 1) := by decide +kernel
theorem d_Yf_takeUntilEnough_77 : decode b_Yf_takeUntilEnough 77 = .ok (.getfield 34, 3) := by decide +kernel
theorem d_Yf_takeUntilEnough_80 : decode b_Yf_takeUntilEnough 80 = .ok (.aload_n 0, 1) := by decide +kernel
theorem d_Yf_takeUntilEnough_81 : decode b_Yf_takeUntilEnough 81 = .ok (.getfield 38, 3) := by decide +kernel
theorem d_Yf_takeUntilEnough_84 : decode b_Yf_takeUntilEnough 84 = .ok (.iload_n 2, 1) := by decide +kernel
theorem d_Yf_takeUntilEnough_85 : decode b_Yf_takeUntilEnough 85 = .ok (.i2l, 1) := by decide +kernel
theorem d_Yf_takeUntilEnough_86 : decode b_Yf_takeUntilEnough 86 = .ok (.invokevirtual 146, 3) := by decide +kernel
theorem d_Yf_takeUntilEnough_89 : decode b_Yf_takeUntilEnough 89 = .ok (.iinc 3 1, 3) := by decide +kernel
theorem d_Yf_takeUntilEnough_92 : decode b_Yf_takeUntilEnough 92 = .ok (.goto (-66), 3) := by decide +kernel
theorem d_Yf_takeUntilEnough_95 : decode b_Yf_takeUntilEnough 95 = .ok (.return_, 1) := by decide +kernel
