theorem d_Mod_span_57 : decode b_Mod_span 57 = .ok (.ireturn, 1) := by decide +kernel
theorem d_Mod_digit_0 : decode b_Mod_digit 0 = .ok (.aload_n 0, 1) := by decide +kernel
theorem d_Mod_digit_1 : decode b_Mod_digit 1 = .ok (.aload_n 0, 1) := by decide +kernel
theorem d_Mod_digit_2 : decode b_Mod_digit 2 = .ok (.iload_n 1, 1) := by decide +kernel
theorem d_Mod_digit_3 : decode b_Mod_digit 3 = .ok (.iload_n 2, 1) := by decide +kernel
theorem d_Mod_digit_4 : decode b_Mod_digit 4 = .ok (.invokevirtual 58, 3) := by decide +kernel
theorem d_Mod_digit_7 : decode b_Mod_digit 7 = .ok (.ifCond .eq 17, 3) := by decide +kernel
theorem d_Mod_digit_10 : decode b_Mod_digit 10 = .ok (.iload_n 3, 1) := by decide +kernel
theorem d_Mod_digit_11 : decode b_Mod_digit 11 = .ok (.iconst 0, 1) := by decide +kernel
theorem d_Mod_digit_12 : decode b_Mod_digit 12 = .ok (.bipush 35, 2) := by decide +kernel
theorem d_Mod_digit_14 : decode b_Mod_digit 14 = .ok (.invokestatic 46, 3) := by decide +kernel
theorem d_Mod_digit_17 : decode b_Mod_digit 17 = .ok (.ifCond .eq 7, 3) := by decide +kernel
theorem d_Mod_digit_20 : decode b_Mod_digit 20 = .ok (.iconst 1, 1) := by decide +kernel
theorem d_Mod_digit_21 : decode b_Mod_digit 21 = .ok (.goto 4, 3) := by decide +kernel
theorem d_Mod_digit_24 : decode b_Mod_digit 24 = .ok (.iconst 0, 1) := by decide +kernel
theorem d_Mod_digit_25 : decode b_Mod_digit 25 = .ok (.iconst 1, 1) := by decide +kernel
theorem d_Mod_digit_26 : decode b_Mod_digit 26 = .ok (.iconst 1, 1) := by decide +kernel
theorem d_Mod_digit_27 : decode b_Mod_digit 27 = .ok (.iconst 1, 1) := by decide +kernel
theorem d_Mod_digit_28 : decode b_Mod_digit 28 = .ok (.invokevirtual 50, 3) := by decide +kernel
theorem d_Mod_digit_31 : decode b_Mod_digit 31 = .ok (.ifCond .eq 19, 3) := by decide +kernel
theorem d_Mod_digit_34 : decode b_Mod_digit 34 = .ok (.aload_n 0, 1) := by decide +kernel
theorem d_Mod_digit_35 : decode b_Mod_digit 35 = .ok (.getfield 16, 3) := by decide +kernel
theorem d_Mod_digit_38 : decode b_Mod_digit 38 = .ok (.aload_n 0, 1) := by decide +kernel
theorem d_Mod_digit_39 : decode b_Mod_digit 39 = .ok (.iload_n 1, 1) := by decide +kernel
theorem d_Mod_digit_40 : decode b_Mod_digit 40 = .ok (.iload_n 2, 1) := by decide +kernel
theorem d_Mod_digit_41 : decode b_Mod_digit 41 = .ok (.invokevirtual 64, 3) := by decide +kernel
theorem d_Mod_digit_44 : decode b_Mod_digit 44 = .ok (.iload_n 3, 1) := by decide +kernel
theorem d_Mod_digit_45 : decode b_Mod_digit 45 = .ok (.iadd, 1) := by decide +kernel
theorem d_Mod_digit_46 : decode b_Mod_digit 46 = .ok (.iaload, 1) := by decide +kernel
theorem d_Mod_digit_47 : decode b_Mod_digit 47 = .ok (.goto 4, 3) := by decide +kernel
theorem d_Mod_digit_50 : decode b_Mod_digit 50 = .ok (.iconst 0, 1) := by decide +kernel
theorem d_Mod_digit_51 : decode b_Mod_digit 51 = .ok (.ireturn, 1) := by decide +kernel
theorem d_Mod_total_0 : decode b_Mod_total 0 = .ok (.aload_n 0, 1) := by decide +kernel
theorem d_Mod_total_1 : decode b_Mod_total 1 = .ok (.aload_n 0, 1) := by decide +kernel
theorem d_Mod_total_2 : decode b_Mod_total 2 = .ok (.iload_n 1, 1) := by decide +kernel
theorem d_Mod_total_3 : decode b_Mod_total 3 = .ok (.invokevirtual 42, 3) := by decide +kernel
theorem d_Mod_total_6 : decode b_Mod_total 6 = .ok (.ifCond .eq 17, 3) := by decide +kernel
theorem d_Mod_total_9 : decode b_Mod_total 9 = .ok (.iload_n 2, 1) := by decide +kernel
theorem d_Mod_total_10 : decode b_Mod_total 10 = .ok (.iconst 0, 1) := by decide +kernel
theorem d_Mod_total_11 : decode b_Mod_total 11 = .ok (.bipush 37, 2) := by decide +kernel
theorem d_Mod_total_13 : decode b_Mod_total 13 = .ok (.invokestatic 46, 3) := by decide +kernel
theorem d_Mod_total_16 : decode b_Mod_total 16 = .ok (.ifCond .eq 7, 3) := by decide +kernel
theorem d_Mod_total_19 : decode b_Mod_total 19 = .ok (.iconst 1, 1) := by decide +kernel
theorem d_Mod_total_20 : decode b_Mod_total 20 = .ok (.goto 4, 3) := by decide +kernel
theorem d_Mod_total_23 : decode b_Mod_total 23 = .ok (.iconst 0, 1) := by decide +kernel
theorem d_Mod_total_24 : decode b_Mod_total 24 = .ok (.iconst 1, 1) := by decide +kernel
theorem d_Mod_total_25 : decode b_Mod_total 25 = .ok (.iconst 1, 1) := by decide +kernel
theorem d_Mod_total_26 : decode b_Mod_total 26 = .ok (.iconst 1, 1) := by decide +kernel
theorem d_Mod_total_27 : decode b_Mod_total 27 = .ok (.invokevirtual 50, 3) := by decide +kernel
theorem d_Mod_total_30 : decode b_Mod_total 30 = .ok (.ifCond .ne 5, 3) := by decide +kernel
theorem d_Mod_total_33 : decode b_Mod_total 33 = .ok (.iconst 0, 1) := by decide +kernel
theorem d_Mod_total_34 : decode b_Mod_total 34 = .ok (.ireturn, 1) := by decide +kernel
theorem d_Mod_total_35 : decode b_Mod_total 35 = .ok (.aload_n 0, 1) := by decide +kernel
theorem d_Mod_total_36 : decode b_Mod_total 36 = .ok (.iload_n 1, 1) := by decide +kernel
theorem d_Mod_total_37 : decode b_Mod_total 37 = .ok (.iconst 1, 1) := by decide +kernel
theorem d_Mod_total_38 : decode b_Mod_total 38 = .ok (.invokevirtual 89, 3) := by decide +kernel
theorem d_Mod_total_41 : decode b_Mod_total 41 = .ok (.aload_n 0, 1) := by decide +kernel
theorem d_Mod_total_42 : decode b_Mod_total 42 = .ok (.getfield 25, 3) := by decide +kernel
theorem d_Mod_total_45 : decode b_Mod_total 45 = .ok (.iload_n 2, 1) := by decide +kernel
theorem d_Mod_total_46 : decode b_Mod_total 46 = .ok (.iaload, 1) := by decide +kernel
theorem d_Mod_total_47 : decode b_Mod_total 47 = .ok (.ireturn, 1) := by decide +kernel
theorem d_Mod_compare_0 : decode b_Mod_compare 0 = .ok (.aload_n 0, 1) := by decide +kernel
theorem d_Mod_compare_1 : decode b_Mod_compare 1 = .ok (.aload_n 0, 1) := by decide +kernel
theorem d_Mod_compare_2 : decode b_Mod_compare 2 = .ok (.iload_n 1, 1) := by decide +kernel
theorem d_Mod_compare_3 : decode b_Mod_compare 3 = .ok (.iload_n 2, 1) := by decide +kernel
theorem d_Mod_compare_4 : decode b_Mod_compare 4 = .ok (.invokevirtual 58, 3) := by decide +kernel
theorem d_Mod_compare_7 : decode b_Mod_compare 7 = .ok (.ifCond .eq 17, 3) := by decide +kernel
theorem d_Mod_compare_10 : decode b_Mod_compare 10 = .ok (.aload_n 0, 1) := by decide +kernel
theorem d_Mod_compare_11 : decode b_Mod_compare 11 = .ok (.iload_n 3, 1) := by decide +kernel
theorem d_Mod_compare_12 : decode b_Mod_compare 12 = .ok (.iload 4, 2) := by decide +kernel
theorem d_Mod_compare_14 : decode b_Mod_compare 14 = .ok (.invokevirtual 58, 3) := by decide +kernel
theorem d_Mod_compare_17 : decode b_Mod_compare 17 = .ok (.ifCond .eq 7, 3) := by decide +kernel
theorem d_Mod_compare_20 : decode b_Mod_compare 20 = .ok (.iconst 1, 1) := by decide +kernel
theorem d_Mod_compare_21 : decode b_Mod_compare 21 = .ok (.goto 4, 3) := by decide +kernel
theorem d_Mod_compare_24 : decode b_Mod_compare 24 = .ok (.iconst 0, 1) := by decide +kernel
theorem d_Mod_compare_25 : decode b_Mod_compare 25 = .ok (.iconst 1, 1) := by decide +kernel
theorem d_Mod_compare_26 : decode b_Mod_compare 26 = .ok (.iconst 1, 1) := by decide +kernel
theorem d_Mod_compare_27 : decode b_Mod_compare 27 = .ok (.iconst 1, 1) := by decide +kernel
theorem d_Mod_compare_28 : decode b_Mod_compare 28 = .ok (.invokevirtual 50, 3) := by decide +kernel
theorem d_Mod_compare_31 : decode b_Mod_compare 31 = .ok (.ifCond .eq 23, 3) := by decide +kernel
theorem d_Mod_compare_34 : decode b_Mod_compare 34 = .ok (.aload_n 0, 1) := by decide +kernel
theorem d_Mod_compare_35 : decode b_Mod_compare 35 = .ok (.aload_n 0, 1) := by decide +kernel
theorem d_Mod_compare_36 : decode b_Mod_compare 36 = .ok (.iload_n 1, 1) := by decide +kernel
theorem d_Mod_compare_37 : decode b_Mod_compare 37 = .ok (.iload_n 2, 1) := by decide +kernel
theorem d_Mod_compare_38 : decode b_Mod_compare 38 = .ok (.invokevirtual 64, 3) := by decide +kernel
theorem d_Mod_compare_41 : decode b_Mod_compare 41 = .ok (.aload_n 0, 1) := by decide +kernel
theorem d_Mod_compare_42 : decode b_Mod_compare 42 = .ok (.iload_n 3, 1) := by decide +kernel
theorem d_Mod_compare_43 : decode b_Mod_compare 43 = .ok (.iload 4, 2) := by decide +kernel
theorem d_Mod_compare_45 : decode b_Mod_compare 45 = .ok (.invokevirtual 64, 3) := by decide +kernel
theorem d_Mod_compare_48 : decode b_Mod_compare 48 = .ok (.invokevirtual 104, 3) := by decide +kernel
theorem d_Mod_compare_51 : decode b_Mod_compare 51 = .ok (.goto 4, 3) := by decide +kernel
theorem d_Mod_compare_54 : decode b_Mod_compare 54 = .ok (.iconst 0, 1) := by decide +kernel
theorem d_Mod_compare_55 : decode b_Mod_compare 55 = .ok (.ireturn, 1) := by decide +kernel
theorem d_Mod_about_0 : decode b_Mod_about 0 = .ok (.aload_n 0, 1) := by decide +kernel
theorem d_Mod_about_1 : decode b_Mod_about 1 = .ok (.aload_n 0, 1) := by decide +kernel
theorem d_Mod_about_2 : decode b_Mod_about 2 = .ok (.iload_n 1, 1) := by decide +kernel
theorem d_Mod_about_3 : decode b_Mod_about 3 = .ok (.invokevirtual 42, 3) := by decide +kernel
theorem d_Mod_about_6 : decode b_Mod_about 6 = .ok (.iload_n 2, 1) := by decide +kernel
theorem d_Mod_about_7 : decode b_Mod_about 7 = .ok (.iconst 0, 1) := by decide +kernel
theorem d_Mod_about_8 : decode b_Mod_about 8 = .ok (.iconst 2, 1) := by decide +kernel
theorem d_Mod_about_9 : decode b_Mod_about 9 = .ok (.invokestatic 46, 3) := by decide +kernel
theorem d_Mod_about_12 : decode b_Mod_about 12 = .ok (.iconst 1, 1) := by decide +kernel
theorem d_Mod_about_13 : decode b_Mod_about 13 = .ok (.iconst 1, 1) := by decide +kernel
theorem d_Mod_about_14 : decode b_Mod_about 14 = .ok (.invokevirtual 50, 3) := by decide +kernel
theorem d_Mod_about_17 : decode b_Mod_about 17 = .ok (.ifCond .ne 5, 3) := by decide +kernel
theorem d_Mod_about_20 : decode b_Mod_about 20 = .ok (.iconst 0, 1) := by decide +kernel
theorem d_Mod_about_21 : decode b_Mod_about 21 = .ok (.ireturn, 1) := by decide +kernel
theorem d_Mod_about_22 : decode b_Mod_about 22 = .ok (.iconst 0, 1) := by decide +kernel
theorem d_Mod_about_23 : decode b_Mod_about 23 = .ok (.istore_n 3, 1) := by decide +kernel
theorem d_Mod_about_24 : decode b_Mod_about 24 = .ok (.iconst 0, 1) := by decide +kernel
theorem d_Mod_about_25 : decode b_Mod_about 25 = .ok (.istore 4, 2) := by decide +kernel
theorem d_Mod_about_27 : decode b_Mod_about 27 = .ok (.iload 4, 2) := by decide +kernel
theorem d_Mod_about_29 : decode b_Mod_about 29 = .ok (.aload_n 0, 1) := by decide +kernel
theorem d_Mod_about_30 : decode b_Mod_about 30 = .ok (.getfield 13, 3) := by decide +kernel
theorem d_Mod_about_33 : decode b_Mod_about 33 = .ok (.iload_n 1, 1) := by decide +kernel
theorem d_Mod_about_34 : decode b_Mod_about 34 = .ok (.iaload, 1) := by decide +kernel
theorem d_Mod_about_35 : decode b_Mod_about 35 = .ok (.if_icmp .ge 74, 3) := by decide +kernel
theorem d_Mod_about_38 : decode b_Mod_about 38 = .ok (.iconst 0, 1) := by decide +kernel
theorem d_Mod_about_39 : decode b_Mod_about 39 = .ok (.istore 5, 2) := by decide +kernel
theorem d_Mod_about_41 : decode b_Mod_about 41 = .ok (.iconst 0, 1) := by decide +kernel
theorem d_Mod_about_42 : decode b_Mod_about 42 = .ok (.istore 6, 2) := by decide +kernel
theorem d_Mod_about_44 : decode b_Mod_about 44 = .ok (.iload 6, 2) := by decide +kernel
theorem d_Mod_about_46 : decode b_Mod_about 46 = .ok (.bipush 36, 2) := by decide +kernel
theorem d_Mod_about_48 : decode b_Mod_about 48 = .ok (.if_icmp .ge 42, 3) := by decide +kernel
theorem d_Mod_about_51 : decode b_Mod_about 51 = .ok (.iload 5, 2) := by decide +kernel
theorem d_Mod_about_53 : decode b_Mod_about 53 = .ok (.ifCond .ne 24, 3) := by decide +kernel
theorem d_Mod_about_56 : decode b_Mod_about 56 = .ok (.aload_n 0, 1) := by decide +kernel
theorem d_Mod_about_57 : decode b_Mod_about 57 = .ok (.getfield 16, 3) := by decide +kernel
theorem d_Mod_about_60 : decode b_Mod_about 60 = .ok (.bipush 36, 2) := by decide +kernel
theorem d_Mod_about_62 : decode b_Mod_about 62 = .ok (.bipush 48, 2) := by decide +kernel
theorem d_Mod_about_64 : decode b_Mod_about 64 = .ok (.iload_n 1, 1) := by decide +kernel
theorem d_Mod_about_65 : decode b_Mod_about 65 = .ok (.imul, 1) := by decide +kernel
theorem d_Mod_about_66 : decode b_Mod_about 66 = .ok (.iload 4, 2) := by decide +kernel
theorem d_Mod_about_68 : decode b_Mod_about 68 = .ok (.iadd, 1) := by decide +kernel
theorem d_Mod_about_69 : decode b_Mod_about 69 = .ok (.imul, 1) := by decide +kernel
theorem d_Mod_about_70 : decode b_Mod_about 70 = .ok (.iload 6, 2) := by decide +kernel
theorem d_Mod_about_72 : decode b_Mod_about 72 = .ok (.iadd, 1) := by decide +kernel
theorem d_Mod_about_73 : decode b_Mod_about 73 = .ok (.iaload, 1) := by decide +kernel
theorem d_Mod_about_74 : decode b_Mod_about 74 = .ok (.ifCond .eq 7, 3) := by decide +kernel
theorem d_Mod_about_77 : decode b_Mod_about 77 = .ok (.iconst 1, 1) := by decide +kernel
theorem d_Mod_about_78 : decode b_Mod_about 78 = .ok (.goto 4, 3) := by decide +kernel
theorem d_Mod_about_81 : decode b_Mod_about 81 = .ok (.iconst 0, 1) := by decide +kernel
theorem d_Mod_about_82 : decode b_Mod_about 82 = .ok (.istore 5, 2) := by decide +kernel
theorem d_Mod_about_84 : decode b_Mod_about 84 = .ok (.iinc 6 1, 3) := by decide +kernel
theorem d_Mod_about_87 : decode b_Mod_about 87 = .ok (.goto (-43), 3) := by decide +kernel
theorem d_Mod_about_90 : decode b_Mod_about 90 = .ok (.iload 5, 2) := by decide +kernel
theorem d_Mod_about_92 : decode b_Mod_about 92 = .ok (.ifCond .eq 9, 3) := by decide +kernel
theorem d_Mod_about_95 : decode b_Mod_about 95 = .ok (.iload_n 3, 1) := by decide +kernel
theorem d_Mod_about_96 : decode b_Mod_about 96 = .ok (.iconst 1, 1) := by decide +kernel
theorem d_Mod_about_97 : decode b_Mod_about 97 = .ok (.iadd, 1) := by decide +kernel
theorem d_Mod_about_98 : decode b_Mod_about 98 = .ok (.goto 4, 3) := by decide +kernel
theorem d_Mod_about_101 : decode b_Mod_about 101 = .ok (.iload_n 3, 1) := by decide +kernel
theorem d_Mod_about_102 : decode b_Mod_about 102 = .ok (.istore_n 3, 1) := by decide +kernel
theorem d_Mod_about_103 : decode b_Mod_about 103 = .ok (.iinc 4 1, 3) := by decide +kernel
theorem d_Mod_about_106 : decode b_Mod_about 106 = .ok (.goto (-79), 3) := by decide +kernel
theorem d_Mod_about_109 : decode b_Mod_about 109 = .ok (.iload_n 2, 1) := by decide +kernel
theorem d_Mod_about_110 : decode b_Mod_about 110 = .ok (.ifCond .ne 12, 3) := by decide +kernel
theorem d_Mod_about_113 : decode b_Mod_about 113 = .ok (.aload_n 0, 1) := by decide +kernel
theorem d_Mod_about_114 : decode b_Mod_about 114 = .ok (.getfield 7, 3) := by decide +kernel
theorem d_Mod_about_117 : decode b_Mod_about 117 = .ok (.iload_n 1, 1) := by decide +kernel
theorem d_Mod_about_118 : decode b_Mod_about 118 = .ok (.iaload, 1) := by decide +kernel
theorem d_Mod_about_119 : decode b_Mod_about 119 = .ok (.goto 27, 3) := by decide +kernel
theorem d_Mod_about_122 : decode b_Mod_about 122 = .ok (.iload_n 2, 1) := by decide +kernel
theorem d_Mod_about_123 : decode b_Mod_about 123 = .ok (.iconst 1, 1) := by decide +kernel
theorem d_Mod_about_124 : decode b_Mod_about 124 = .ok (.if_icmp .ne 21, 3) := by decide +kernel
theorem d_Mod_about_127 : decode b_Mod_about 127 = .ok (.aload_n 0, 1) := by decide +kernel
theorem d_Mod_about_128 : decode b_Mod_about 128 = .ok (.getfield 7, 3) := by decide +kernel
theorem d_Mod_about_131 : decode b_Mod_about 131 = .ok (.iload_n 1, 1) := by decide +kernel
theorem d_Mod_about_132 : decode b_Mod_about 132 = .ok (.iaload, 1) := by decide +kernel
theorem d_Mod_about_133 : decode b_Mod_about 133 = .ok (.aload_n 0, 1) := by decide +kernel
theorem d_Mod_about_134 : decode b_Mod_about 134 = .ok (.getfield 13, 3) := by decide +kernel
theorem d_Mod_about_137 : decode b_Mod_about 137 = .ok (.iload_n 1, 1) := by decide +kernel
theorem d_Mod_about_138 : decode b_Mod_about 138 = .ok (.iaload, 1) := by decide +kernel
theorem d_Mod_about_139 : decode b_Mod_about 139 = .ok (.iadd, 1) := by decide +kernel
theorem d_Mod_about_140 : decode b_Mod_about 140 = .ok (.iconst 1, 1) := by decide +kernel
theorem d_Mod_about_141 : decode b_Mod_about 141 = .ok (.isub, 1) := by decide +kernel
theorem d_Mod_about_142 : decode b_Mod_about 142 = .ok (.goto 4, 3) := by decide +kernel
theorem d_Mod_about_145 : decode b_Mod_about 145 = .ok (.iload_n 3, 1) := by decide +kernel
theorem d_Mod_about_146 : decode b_Mod_about 146 = .ok (.ireturn, 1) := by decide +kernel
theorem d_Mod_over_0 : decode b_Mod_over 0 = .ok (.aload_n 0, 1) := by decide +kernel
theorem d_Mod_over_1 : decode b_Mod_over 1 = .ok (.lload_n 3, 1) := by decide +kernel
theorem d_Mod_over_2 : decode b_Mod_over 2 = .ok (.lconst 0, 1) := by decide +kernel
theorem d_Mod_over_3 : decode b_Mod_over 3 = .ok (.lcmp, 1) := by decide +kernel
theorem d_Mod_over_4 : decode b_Mod_over 4 = .ok (.ifCond .eq 7, 3) := by decide +kernel
theorem d_Mod_over_7 : decode b_Mod_over 7 = .ok (.iconst 1, 1) := by decide +kernel
theorem d_Mod_over_8 : decode b_Mod_over 8 = .ok (.goto 4, 3) := by decide +kernel
theorem d_Mod_over_11 : decode b_Mod_over 11 = .ok (.iconst 0, 1) := by decide +kernel
theorem d_Mod_over_12 : decode b_Mod_over 12 = .ok (.iconst 1, 1) := by decide +kernel
theorem d_Mod_over_13 : decode b_Mod_over 13 = .ok (.iconst 1, 1) := by decide +kernel
theorem d_Mod_over_14 : decode b_Mod_over 14 = .ok (.iconst 1, 1) := by decide +kernel
theorem d_Mod_over_15 : decode b_Mod_over 15 = .ok (.invokevirtual 50, 3) := by decide +kernel
theorem d_Mod_over_18 : decode b_Mod_over 18 = .ok (.ifCond .eq 9, 3) := by decide +kernel
theorem d_Mod_over_21 : decode b_Mod_over 21 = .ok (.lload_n 1, 1) := by decide +kernel
theorem d_Mod_over_22 : decode b_Mod_over 22 = .ok (.lload_n 3, 1) := by decide +kernel
theorem d_Mod_over_23 : decode b_Mod_over 23 = .ok (.ldiv, 1) := by decide +kernel
theorem d_Mod_over_24 : decode b_Mod_over 24 = .ok (.goto 4, 3) := by decide +kernel
theorem d_Mod_over_27 : decode b_Mod_over 27 = .ok (.lconst 0, 1) := by decide +kernel
theorem d_Mod_over_28 : decode b_Mod_over 28 = .ok (.lreturn, 1) := by decide +kernel
theorem d_Mod_written_0 : decode b_Mod_written 0 = .ok (.aload_n 0, 1) := by decide +kernel
theorem d_Mod_written_1 : decode b_Mod_written 1 = .ok (.iconst 0, 1) := by decide +kernel
theorem d_Mod_written_2 : decode b_Mod_written 2 = .ok (.putfield 35, 3) := by decide +kernel
theorem d_Mod_written_5 : decode b_Mod_written 5 = .ok (.iload_n 1, 1) := by decide +kernel
theorem d_Mod_written_6 : decode b_Mod_written 6 = .ok (.ifCond .le 8, 3) := by decide +kernel
theorem d_Mod_written_9 : decode b_Mod_written 9 = .ok (.iload_n 1, 1) := by decide +kernel
theorem d_Mod_written_10 : decode b_Mod_written 10 = .ok (.i2l, 1) := by decide +kernel
theorem d_Mod_written_11 : decode b_Mod_written 11 = .ok (.goto 7, 3) := by decide +kernel
theorem d_Mod_written_14 : decode b_Mod_written 14 = .ok (.iload_n 1, 1) := by decide +kernel
theorem d_Mod_written_15 : decode b_Mod_written 15 = .ok (.i2l, 1) := by decide +kernel
theorem d_Mod_written_16 : decode b_Mod_written 16 = .ok (.lconst 1, 1) := by decide +kernel
theorem d_Mod_written_17 : decode b_Mod_written 17 = .ok (.lsub, 1) := by decide +kernel
theorem d_Mod_written_18 : decode b_Mod_written 18 = .ok (.lreturn, 1) := by decide +kernel
theorem d_Mod_rest_2_0 : decode b_Mod_rest_2 0 = .ok (.iload_n 0, 1) := by decide +kernel
theorem d_Mod_rest_2_1 : decode b_Mod_rest_2 1 = .ok (.iload_n 1, 1) := by decide +kernel
theorem d_Mod_rest_2_2 : decode b_Mod_rest_2 2 = .ok (.irem, 1) := by decide +kernel
theorem d_Mod_rest_2_3 : decode b_Mod_rest_2 3 = .ok (.istore_n 2, 1) := by decide +kernel
theorem d_Mod_rest_2_4 : decode b_Mod_rest_2 4 = .ok (.iload_n 2, 1) := by decide +kernel
theorem d_Mod_rest_2_5 : decode b_Mod_rest_2 5 = .ok (.ifCond .ge 9, 3) := by decide +kernel
theorem d_Mod_rest_2_8 : decode b_Mod_rest_2 8 = .ok (.iload_n 2, 1) := by decide +kernel
theorem d_Mod_rest_2_9 : decode b_Mod_rest_2 9 = .ok (.iload_n 1, 1) := by decide +kernel
theorem d_Mod_rest_2_10 : decode b_Mod_rest_2 10 = .ok (.iadd, 1) := by decide +kernel
theorem d_Mod_rest_2_11 : decode b_Mod_rest_2 11 = .ok (.goto 4, 3) := by decide +kernel
theorem d_Mod_rest_2_14 : decode b_Mod_rest_2 14 = .ok (.iload_n 2, 1) := by decide +kernel
theorem d_Mod_rest_2_15 : decode b_Mod_rest_2 15 = .ok (.ireturn, 1) := by decide +kernel
theorem d_Mod_isLeap_0 : decode b_Mod_isLeap 0 = .ok (.iload_n 0, 1) := by decide +kernel
theorem d_Mod_isLeap_1 : decode b_Mod_isLeap 1 = .ok (.iconst 2, 1) := by decide +kernel
theorem d_Mod_isLeap_2 : decode b_Mod_isLeap 2 = .ok (.if_icmp .ge 41, 3) := by decide +kernel
theorem d_Mod_isLeap_5 : decode b_Mod_isLeap 5 = .ok (.iload_n 1, 1) := by decide +kernel
theorem d_Mod_isLeap_6 : decode b_Mod_isLeap 6 = .ok (.iconst 4, 1) := by decide +kernel
theorem d_Mod_isLeap_7 : decode b_Mod_isLeap 7 = .ok (.invokestatic 110, 3) := by decide +kernel
theorem d_Mod_isLeap_10 : decode b_Mod_isLeap 10 = .ok (.ifCond .ne 31, 3) := by decide +kernel
theorem d_Mod_isLeap_13 : decode b_Mod_isLeap 13 = .ok (.iload_n 0, 1) := by decide +kernel
theorem d_Mod_isLeap_14 : decode b_Mod_isLeap 14 = .ok (.iconst 1, 1) := by decide +kernel
theorem d_Mod_isLeap_15 : decode b_Mod_isLeap 15 = .ok (.if_icmp .eq 22, 3) := by decide +kernel
theorem d_Mod_isLeap_18 : decode b_Mod_isLeap 18 = .ok (.iload_n 1, 1) := by decide +kernel
theorem d_Mod_isLeap_19 : decode b_Mod_isLeap 19 = .ok (.bipush 100, 2) := by decide +kernel
theorem d_Mod_isLeap_21 : decode b_Mod_isLeap 21 = .ok (.invokestatic 110, 3) := by decide +kernel
theorem d_Mod_isLeap_24 : decode b_Mod_isLeap 24 = .ok (.ifCond .ne 13, 3) := by decide +kernel
theorem d_Mod_isLeap_27 : decode b_Mod_isLeap 27 = .ok (.iload_n 1, 1) := by decide +kernel
theorem d_Mod_isLeap_28 : decode b_Mod_isLeap 28 = .ok (.sipush 400, 3) := by decide +kernel
theorem d_Mod_isLeap_31 : decode b_Mod_isLeap 31 = .ok (.invokestatic 110, 3) := by decide +kernel
theorem d_Mod_isLeap_34 : decode b_Mod_isLeap 34 = .ok (.ifCond .ne 7, 3) := by decide +kernel
theorem d_Mod_isLeap_37 : decode b_Mod_isLeap 37 = .ok (.iconst 1, 1) := by decide +kernel
theorem d_Mod_isLeap_38 : decode b_Mod_isLeap 38 = .ok (.goto 4, 3) := by decide +kernel
theorem d_Mod_isLeap_41 : decode b_Mod_isLeap 41 = .ok (.iconst 0, 1) := by decide +kernel
theorem d_Mod_isLeap_42 : decode b_Mod_isLeap 42 = .ok (.ireturn, 1) := by decide +kernel
theorem d_Mod_isLeap_43 : decode b_Mod_isLeap 43 = .ok (.iload_n 1, 1) := by decide +kernel
theorem d_Mod_isLeap_44 : decode b_Mod_isLeap 44 = .ok (.bipush 30, 2) := by decide +kernel
theorem d_Mod_isLeap_46 : decode b_Mod_isLeap 46 = .ok (.invokestatic 110, 3) := by decide +kernel
theorem d_Mod_isLeap_49 : decode b_Mod_isLeap 49 = .ok (.istore_n 2, 1) := by decide +kernel
theorem d_Mod_isLeap_50 : decode b_Mod_isLeap 50 = .ok (.iload_n 0, 1) := by decide +kernel
theorem d_Mod_isLeap_51 : decode b_Mod_isLeap 51 = .ok (.iconst 2, 1) := by decide +kernel
theorem d_Mod_isLeap_52 : decode b_Mod_isLeap 52 = .ok (.if_icmp .ne 71, 3) := by decide +kernel
theorem d_Mod_isLeap_55 : decode b_Mod_isLeap 55 = .ok (.iload_n 2, 1) := by decide +kernel
theorem d_Mod_isLeap_56 : decode b_Mod_isLeap 56 = .ok (.iconst 2, 1) := by decide +kernel
theorem d_Mod_isLeap_57 : decode b_Mod_isLeap 57 = .ok (.if_icmp .eq 62, 3) := by decide +kernel
theorem d_Mod_isLeap_60 : decode b_Mod_isLeap 60 = .ok (.iload_n 2, 1) := by decide +kernel
theorem d_Mod_isLeap_61 : decode b_Mod_isLeap 61 = .ok (.iconst 5, 1) := by decide +kernel
theorem d_Mod_isLeap_62 : decode b_Mod_isLeap 62 = .ok (.if_icmp .eq 57, 3) := by decide +kernel
theorem d_Mod_isLeap_65 : decode b_Mod_isLeap 65 = .ok (.iload_n 2, 1) := by decide +kernel
theorem d_Mod_isLeap_66 : decode b_Mod_isLeap 66 = .ok (.bipush 7, 2) := by decide +kernel
theorem d_Mod_isLeap_68 : decode b_Mod_isLeap 68 = .ok (.if_icmp .eq 51, 3) := by decide +kernel
theorem d_Mod_isLeap_71 : decode b_Mod_isLeap 71 = .ok (.iload_n 2, 1) := by decide +kernel
theorem d_Mod_isLeap_72 : decode b_Mod_isLeap 72 = .ok (.bipush 10, 2) := by decide +kernel
theorem d_Mod_isLeap_74 : decode b_Mod_isLeap 74 = .ok (.if_icmp .eq 45, 3) := by decide +kernel
theorem d_Mod_isLeap_77 : decode b_Mod_isLeap 77 = .ok (.iload_n 2, 1) := by decide +kernel
theorem d_Mod_isLeap_78 : decode b_Mod_isLeap 78 = .ok (.bipush 13, 2) := by decide +kernel
theorem d_Mod_isLeap_80 : decode b_Mod_isLeap 80 = .ok (.if_icmp .eq 39, 3) := by decide +kernel
theorem d_Mod_isLeap_83 : decode b_Mod_isLeap 83 = .ok (.iload_n 2, 1) := by decide +kernel
theorem d_Mod_isLeap_84 : decode b_Mod_isLeap 84 = .ok (.bipush 16, 2) := by decide +kernel
theorem d_Mod_isLeap_86 : decode b_Mod_isLeap 86 = .ok (.if_icmp .eq 33, 3) := by decide +kernel
theorem d_Mod_isLeap_89 : decode b_Mod_isLeap 89 = .ok (.iload_n 2, 1) := by decide +kernel
theorem d_Mod_isLeap_90 : decode b_Mod_isLeap 90 = .ok (.bipush 18, 2) := by decide +kernel
theorem d_Mod_isLeap_92 : decode b_Mod_isLeap 92 = .ok (.if_icmp .eq 27, 3) := by decide +kernel
theorem d_Mod_isLeap_95 : decode b_Mod_isLeap 95 = .ok (.iload_n 2, 1) := by decide +kernel
theorem d_Mod_isLeap_96 : decode b_Mod_isLeap 96 = .ok (.bipush 21, 2) := by decide +kernel
theorem d_Mod_isLeap_98 : decode b_Mod_isLeap 98 = .ok (.if_icmp .eq 21, 3) := by decide +kernel
theorem d_Mod_isLeap_101 : decode b_Mod_isLeap 101 = .ok (.iload_n 2, 1) := by decide +kernel
theorem d_Mod_isLeap_102 : decode b_Mod_isLeap 102 = .ok (.bipush 24, 2) := by decide +kernel
theorem d_Mod_isLeap_104 : decode b_Mod_isLeap 104 = .ok (.if_icmp .eq 15, 3) := by decide +kernel
theorem d_Mod_isLeap_107 : decode b_Mod_isLeap 107 = .ok (.iload_n 2, 1) := by decide +kernel
theorem d_Mod_isLeap_108 : decode b_Mod_isLeap 108 = .ok (.bipush 26, 2) := by decide +kernel
theorem d_Mod_isLeap_110 : decode b_Mod_isLeap 110 = .ok (.if_icmp .eq 9, 3) := by decide +kernel
theorem d_Mod_isLeap_113 : decode b_Mod_isLeap 113 = .ok (.iload_n 2, 1) := by decide +kernel
theorem d_Mod_isLeap_114 : decode b_Mod_isLeap 114 = .ok (.bipush 29, 2) := by decide +kernel
theorem d_Mod_isLeap_116 : decode b_Mod_isLeap 116 = .ok (.if_icmp .ne 7, 3) := by decide +kernel
theorem d_Mod_isLeap_119 : decode b_Mod_isLeap 119 = .ok (.iconst 1, 1) := by decide +kernel
theorem d_Mod_isLeap_120 : decode b_Mod_isLeap 120 = .ok (.goto 4, 3) := by decide +kernel
theorem d_Mod_isLeap_123 : decode b_Mod_isLeap 123 = .ok (.iconst 0, 1) := by decide +kernel
theorem d_Mod_isLeap_124 : decode b_Mod_isLeap 124 = .ok (.ireturn, 1) := by decide +kernel
theorem d_Mod_yearDays_0 : decode b_Mod_yearDays 0 = .ok (.iload_n 0, 1) := by decide +kernel
theorem d_Mod_yearDays_1 : decode b_Mod_yearDays 1 = .ok (.iconst 2, 1) := by decide +kernel
theorem d_Mod_yearDays_2 : decode b_Mod_yearDays 2 = .ok (.if_icmp .ne 9, 3) := by decide +kernel
theorem d_Mod_yearDays_5 : decode b_Mod_yearDays 5 = .ok (.sipush 354, 3) := by decide +kernel
theorem d_Mod_yearDays_8 : decode b_Mod_yearDays 8 = .ok (.goto 6, 3) := by decide +kernel
theorem d_Mod_yearDays_11 : decode b_Mod_yearDays 11 = .ok (.sipush 365, 3) := by decide +kernel
theorem d_Mod_yearDays_14 : decode b_Mod_yearDays 14 = .ok (.iload_n 0, 1) := by decide +kernel
theorem d_Mod_yearDays_15 : decode b_Mod_yearDays 15 = .ok (.iload_n 1, 1) := by decide +kernel
theorem d_Mod_yearDays_16 : decode b_Mod_yearDays 16 = .ok (.invokestatic 113, 3) := by decide +kernel
theorem d_Mod_yearDays_19 : decode b_Mod_yearDays 19 = .ok (.ifCond .eq 7, 3) := by decide +kernel
theorem d_Mod_yearDays_22 : decode b_Mod_yearDays 22 = .ok (.iconst 1, 1) := by decide +kernel
theorem d_Mod_yearDays_23 : decode b_Mod_yearDays 23 = .ok (.goto 4, 3) := by decide +kernel
theorem d_Mod_yearDays_26 : decode b_Mod_yearDays 26 = .ok (.iconst 0, 1) := by decide +kernel
theorem d_Mod_yearDays_27 : decode b_Mod_yearDays 27 = .ok (.iadd, 1) := by decide +kernel
theorem d_Mod_yearDays_28 : decode b_Mod_yearDays 28 = .ok (.ireturn, 1) := by decide +kernel
theorem d_Mod_months_0 : decode b_Mod_months 0 = .ok (.iload_n 0, 1) := by decide +kernel
theorem d_Mod_months_1 : decode b_Mod_months 1 = .ok (.iconst 3, 1) := by decide +kernel
theorem d_Mod_months_2 : decode b_Mod_months 2 = .ok (.if_icmp .ne 8, 3) := by decide +kernel
theorem d_Mod_months_5 : decode b_Mod_months 5 = .ok (.bipush 13, 2) := by decide +kernel
theorem d_Mod_months_7 : decode b_Mod_months 7 = .ok (.goto 5, 3) := by decide +kernel
theorem d_Mod_months_10 : decode b_Mod_months 10 = .ok (.bipush 12, 2) := by decide +kernel
theorem d_Mod_months_12 : decode b_Mod_months 12 = .ok (.ireturn, 1) := by decide +kernel
theorem d_Mod_monthDays_0 : decode b_Mod_monthDays 0 = .ok (.iload_n 0, 1) := by decide +kernel
theorem d_Mod_monthDays_1 : decode b_Mod_monthDays 1 = .ok (.iconst 3, 1) := by decide +kernel
theorem d_Mod_monthDays_2 : decode b_Mod_monthDays 2 = .ok (.if_icmp .ne 16, 3) := by decide +kernel
theorem d_Mod_monthDays_5 : decode b_Mod_monthDays 5 = .ok (.iload_n 2, 1) := by decide +kernel
theorem d_Mod_monthDays_6 : decode b_Mod_monthDays 6 = .ok (.bipush 13, 2) := by decide +kernel
theorem d_Mod_monthDays_8 : decode b_Mod_monthDays 8 = .ok (.if_icmp .ne 7, 3) := by decide +kernel
theorem d_Mod_monthDays_11 : decode b_Mod_monthDays 11 = .ok (.iconst 5, 1) := by decide +kernel
theorem d_Mod_monthDays_12 : decode b_Mod_monthDays 12 = .ok (.goto 5, 3) := by decide +kernel
theorem d_Mod_monthDays_15 : decode b_Mod_monthDays 15 = .ok (.bipush 30, 2) := by decide +kernel
theorem d_Mod_monthDays_17 : decode b_Mod_monthDays 17 = .ok (.ireturn, 1) := by decide +kernel
theorem d_Mod_monthDays_18 : decode b_Mod_monthDays 18 = .ok (.iload_n 0, 1) := by decide +kernel
theorem d_Mod_monthDays_19 : decode b_Mod_monthDays 19 = .ok (.iconst 2, 1) := by decide +kernel
theorem d_Mod_monthDays_20 : decode b_Mod_monthDays 20 = .ok (.if_icmp .ne 37, 3) := by decide +kernel
theorem d_Mod_monthDays_23 : decode b_Mod_monthDays 23 = .ok (.iload_n 2, 1) := by decide +kernel
theorem d_Mod_monthDays_24 : decode b_Mod_monthDays 24 = .ok (.bipush 12, 2) := by decide +kernel
theorem d_Mod_monthDays_26 : decode b_Mod_monthDays 26 = .ok (.if_icmp .ne 16, 3) := by decide +kernel
theorem d_Mod_monthDays_29 : decode b_Mod_monthDays 29 = .ok (.iconst 2, 1) := by decide +kernel
theorem d_Mod_monthDays_30 : decode b_Mod_monthDays 30 = .ok (.iload_n 1, 1) := by decide +kernel
theorem d_Mod_monthDays_31 : decode b_Mod_monthDays 31 = .ok (.invokestatic 113, 3) := by decide +kernel
theorem d_Mod_monthDays_34 : decode b_Mod_monthDays 34 = .ok (.ifCond .eq 8, 3) := by decide +kernel
theorem d_Mod_monthDays_37 : decode b_Mod_monthDays 37 = .ok (.bipush 30, 2) := by decide +kernel
theorem d_Mod_monthDays_39 : decode b_Mod_monthDays 39 = .ok (.goto 17, 3) := by decide +kernel
theorem d_Mod_monthDays_42 : decode b_Mod_monthDays 42 = .ok (.iload_n 2, 1) := by decide +kernel
theorem d_Mod_monthDays_43 : decode b_Mod_monthDays 43 = .ok (.iconst 2, 1) := by decide +kernel
theorem d_Mod_monthDays_44 : decode b_Mod_monthDays 44 = .ok (.irem, 1) := by decide +kernel
theorem d_Mod_monthDays_45 : decode b_Mod_monthDays 45 = .ok (.iconst 1, 1) := by decide +kernel
theorem d_Mod_monthDays_46 : decode b_Mod_monthDays 46 = .ok (.if_icmp .ne 8, 3) := by decide +kernel
theorem d_Mod_monthDays_49 : decode b_Mod_monthDays 49 = .ok (.bipush 30, 2) := by decide +kernel
theorem d_Mod_monthDays_51 : decode b_Mod_monthDays 51 = .ok (.goto 5, 3) := by decide +kernel
theorem d_Mod_monthDays_54 : decode b_Mod_monthDays 54 = .ok (.bipush 29, 2) := by decide +kernel
theorem d_Mod_monthDays_56 : decode b_Mod_monthDays 56 = .ok (.ireturn, 1) := by decide +kernel
theorem d_Mod_monthDays_57 : decode b_Mod_monthDays 57 = .ok (.iload_n 2, 1) := by decide +kernel
theorem d_Mod_monthDays_58 : decode b_Mod_monthDays 58 = .ok (.iconst 2, 1) := by decide +kernel
theorem d_Mod_monthDays_59 : decode b_Mod_monthDays 59 = .ok (.if_icmp .ne 19, 3) := by decide +kernel
theorem d_Mod_monthDays_62 : decode b_Mod_monthDays 62 = .ok (.iload_n 0, 1) := by decide +kernel
theorem d_Mod_monthDays_63 : decode b_Mod_monthDays 63 = .ok (.iload_n 1, 1) := by decide +kernel
theorem d_Mod_monthDays_64 : decode b_Mod_monthDays 64 = .ok (.invokestatic 113, 3) := by decide +kernel
theorem d_Mod_monthDays_67 : decode b_Mod_monthDays 67 = .ok (.ifCond .eq 8, 3) := by decide +kernel
theorem d_Mod_monthDays_70 : decode b_Mod_monthDays 70 = .ok (.bipush 29, 2) := by decide +kernel
theorem d_Mod_monthDays_72 : decode b_Mod_monthDays 72 = .ok (.goto 5, 3) := by decide +kernel
theorem d_Mod_monthDays_75 : decode b_Mod_monthDays 75 = .ok (.bipush 28, 2) := by decide +kernel
theorem d_Mod_monthDays_77 : decode b_Mod_monthDays 77 = .ok (.ireturn, 1) := by decide +kernel
theorem d_Mod_monthDays_78 : decode b_Mod_monthDays 78 = .ok (.iload_n 2, 1) := by decide +kernel
theorem d_Mod_monthDays_79 : decode b_Mod_monthDays 79 = .ok (.iconst 4, 1) := by decide +kernel
theorem d_Mod_monthDays_80 : decode b_Mod_monthDays 80 = .ok (.if_icmp .eq 21, 3) := by decide +kernel
theorem d_Mod_monthDays_83 : decode b_Mod_monthDays 83 = .ok (.iload_n 2, 1) := by decide +kernel
theorem d_Mod_monthDays_84 : decode b_Mod_monthDays 84 = .ok (.bipush 6, 2) := by decide +kernel
theorem d_Mod_monthDays_86 : decode b_Mod_monthDays 86 = .ok (.if_icmp .eq 15, 3) := by decide +kernel
theorem d_Mod_monthDays_89 : decode b_Mod_monthDays 89 = .ok (.iload_n 2, 1) := by decide +kernel
theorem d_Mod_monthDays_90 : decode b_Mod_monthDays 90 = .ok (.bipush 9, 2) := by decide +kernel
theorem d_Mod_monthDays_92 : decode b_Mod_monthDays 92 = .ok (.if_icmp .eq 9, 3) := by decide +kernel
theorem d_Mod_monthDays_95 : decode b_Mod_monthDays 95 = .ok (.iload_n 2, 1) := by decide +kernel
theorem d_Mod_monthDays_96 : decode b_Mod_monthDays 96 = .ok (.bipush 11, 2) := by decide +kernel
theorem d_Mod_monthDays_98 : decode b_Mod_monthDays 98 = .ok (.if_icmp .ne 8, 3) := by decide +kernel
theorem d_Mod_monthDays_101 : decode b_Mod_monthDays 101 = .ok (.bipush 30, 2) := by decide +kernel
theorem d_Mod_monthDays_103 : decode b_Mod_monthDays 103 = .ok (.goto 5, 3) := by decide +kernel
theorem d_Mod_monthDays_106 : decode b_Mod_monthDays 106 = .ok (.bipush 31, 2) := by decide +kernel
theorem d_Mod_monthDays_108 : decode b_Mod_monthDays 108 = .ok (.ireturn, 1) := by decide +kernel
theorem d_Mod_cycle_0 : decode b_Mod_cycle 0 = .ok (.iload_n 0, 1) := by decide +kernel
theorem d_Mod_cycle_1 : decode b_Mod_cycle 1 = .ok (.ifCond .ne 9, 3) := by decide +kernel
theorem d_Mod_cycle_4 : decode b_Mod_cycle 4 = .ok (.sipush 400, 3) := by decide +kernel
theorem d_Mod_cycle_7 : decode b_Mod_cycle 7 = .ok (.goto 23, 3) := by decide +kernel
theorem d_Mod_cycle_10 : decode b_Mod_cycle 10 = .ok (.iload_n 0, 1) := by decide +kernel
theorem d_Mod_cycle_11 : decode b_Mod_cycle 11 = .ok (.iconst 1, 1) := by decide +kernel
theorem d_Mod_cycle_12 : decode b_Mod_cycle 12 = .ok (.if_icmp .ne 7, 3) := by decide +kernel
theorem d_Mod_cycle_15 : decode b_Mod_cycle 15 = .ok (.iconst 4, 1) := by decide +kernel
theorem d_Mod_cycle_16 : decode b_Mod_cycle 16 = .ok (.goto 14, 3) := by decide +kernel
theorem d_Mod_cycle_19 : decode b_Mod_cycle 19 = .ok (.iload_n 0, 1) := by decide +kernel
theorem d_Mod_cycle_20 : decode b_Mod_cycle 20 = .ok (.iconst 2, 1) := by decide +kernel
theorem d_Mod_cycle_21 : decode b_Mod_cycle 21 = .ok (.if_icmp .ne 8, 3) := by decide +kernel
theorem d_Mod_cycle_24 : decode b_Mod_cycle 24 = .ok (.bipush 30, 2) := by decide +kernel
theorem d_Mod_cycle_26 : decode b_Mod_cycle 26 = .ok (.goto 4, 3) := by decide +kernel
theorem d_Mod_cycle_29 : decode b_Mod_cycle 29 = .ok (.iconst 1, 1) := by decide +kernel
theorem d_Mod_cycle_30 : decode b_Mod_cycle 30 = .ok (.ireturn, 1) := by decide +kernel
theorem d_Mod_cycleDays_0 : decode b_Mod_cycleDays 0 = .ok (.iconst 0, 1) := by decide +kernel
theorem d_Mod_cycleDays_1 : decode b_Mod_cycleDays 1 = .ok (.istore_n 1, 1) := by decide +kernel
theorem d_Mod_cycleDays_2 : decode b_Mod_cycleDays 2 = .ok (.iconst 1, 1) := by decide +kernel
theorem d_Mod_cycleDays_3 : decode b_Mod_cycleDays 3 = .ok (.istore_n 2, 1) := by decide +kernel
theorem d_Mod_cycleDays_4 : decode b_Mod_cycleDays 4 = .ok (.iload_n 2, 1) := by decide +kernel
theorem d_Mod_cycleDays_5 : decode b_Mod_cycleDays 5 = .ok (.iload_n 0, 1) := by decide +kernel
theorem d_Mod_cycleDays_6 : decode b_Mod_cycleDays 6 = .ok (.invokestatic 116, 3) := by decide +kernel
theorem d_Mod_cycleDays_9 : decode b_Mod_cycleDays 9 = .ok (.if_icmp .gt 17, 3) := by decide +kernel
theorem d_Mod_cycleDays_12 : decode b_Mod_cycleDays 12 = .ok (.iload_n 1, 1) := by decide +kernel
theorem d_Mod_cycleDays_13 : decode b_Mod_cycleDays 13 = .ok (.iload_n 0, 1) := by decide +kernel
theorem d_Mod_cycleDays_14 : decode b_Mod_cycleDays 14 = .ok (.iload_n 2, 1) := by decide +kernel
theorem d_Mod_cycleDays_15 : decode b_Mod_cycleDays 15 = .ok (.invokestatic 120, 3) := by decide +kernel
theorem d_Mod_cycleDays_18 : decode b_Mod_cycleDays 18 = .ok (.iadd, 1) := by decide +kernel
theorem d_Mod_cycleDays_19 : decode b_Mod_cycleDays 19 = .ok (.istore_n 1, 1) := by decide +kernel
theorem d_Mod_cycleDays_20 : decode b_Mod_cycleDays 20 = .ok (.iinc 2 1, 3) := by decide +kernel
