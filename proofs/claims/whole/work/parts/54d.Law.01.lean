theorem d_Law_row_0 : decode b_Law_row 0 = .ok (.aload_n 3, 1) := by decide +kernel
theorem d_Law_row_1 : decode b_Law_row 1 = .ok (.iconst 0, 1) := by decide +kernel
theorem d_Law_row_2 : decode b_Law_row 2 = .ok (.aload_n 0, 1) := by decide +kernel
theorem d_Law_row_3 : decode b_Law_row 3 = .ok (.iload_n 1, 1) := by decide +kernel
theorem d_Law_row_4 : decode b_Law_row 4 = .ok (.iload_n 2, 1) := by decide +kernel
theorem d_Law_row_5 : decode b_Law_row 5 = .ok (.invokevirtual 7, 3) := by decide +kernel
theorem d_Law_row_8 : decode b_Law_row 8 = .ok (.i2l, 1) := by decide +kernel
theorem d_Law_row_9 : decode b_Law_row 9 = .ok (.lastore, 1) := by decide +kernel
theorem d_Law_row_10 : decode b_Law_row 10 = .ok (.goto 11, 3) := by decide +kernel
theorem d_Law_row_13 : decode b_Law_row 13 = .ok (.astore 4, 2) := by decide +kernel
theorem d_Law_row_15 : decode b_Law_row 15 = .ok (.iconst 1, 1) := by decide +kernel
theorem d_Law_row_16 : decode b_Law_row 16 = .ok (.ireturn, 1) := by decide +kernel
theorem d_Law_row_17 : decode b_Law_row 17 = .ok (.astore 4, 2) := by decide +kernel
theorem d_Law_row_19 : decode b_Law_row 19 = .ok (.iconst 2, 1) := by decide +kernel
theorem d_Law_row_20 : decode b_Law_row 20 = .ok (.ireturn, 1) := by decide +kernel
theorem d_Law_row_21 : decode b_Law_row 21 = .ok (.iconst 0, 1) := by decide +kernel
theorem d_Law_row_22 : decode b_Law_row 22 = .ok (.ireturn, 1) := by decide +kernel
theorem d_Law_weight_0 : decode b_Law_weight 0 = .ok (.aload 5, 2) := by decide +kernel
theorem d_Law_weight_2 : decode b_Law_weight 2 = .ok (.iconst 0, 1) := by decide +kernel
theorem d_Law_weight_3 : decode b_Law_weight 3 = .ok (.aload_n 0, 1) := by decide +kernel
theorem d_Law_weight_4 : decode b_Law_weight 4 = .ok (.iload_n 1, 1) := by decide +kernel
theorem d_Law_weight_5 : decode b_Law_weight 5 = .ok (.iload_n 2, 1) := by decide +kernel
theorem d_Law_weight_6 : decode b_Law_weight 6 = .ok (.lload_n 3, 1) := by decide +kernel
theorem d_Law_weight_7 : decode b_Law_weight 7 = .ok (.invokevirtual 17, 3) := by decide +kernel
theorem d_Law_weight_10 : decode b_Law_weight 10 = .ok (.ifCond .eq 7, 3) := by decide +kernel
theorem d_Law_weight_13 : decode b_Law_weight 13 = .ok (.lconst 1, 1) := by decide +kernel
theorem d_Law_weight_14 : decode b_Law_weight 14 = .ok (.goto 4, 3) := by decide +kernel
theorem d_Law_weight_17 : decode b_Law_weight 17 = .ok (.lconst 0, 1) := by decide +kernel
theorem d_Law_weight_18 : decode b_Law_weight 18 = .ok (.lastore, 1) := by decide +kernel
theorem d_Law_weight_19 : decode b_Law_weight 19 = .ok (.goto 11, 3) := by decide +kernel
theorem d_Law_weight_22 : decode b_Law_weight 22 = .ok (.astore 6, 2) := by decide +kernel
theorem d_Law_weight_24 : decode b_Law_weight 24 = .ok (.iconst 1, 1) := by decide +kernel
theorem d_Law_weight_25 : decode b_Law_weight 25 = .ok (.ireturn, 1) := by decide +kernel
theorem d_Law_weight_26 : decode b_Law_weight 26 = .ok (.astore 6, 2) := by decide +kernel
theorem d_Law_weight_28 : decode b_Law_weight 28 = .ok (.iconst 2, 1) := by decide +kernel
theorem d_Law_weight_29 : decode b_Law_weight 29 = .ok (.ireturn, 1) := by decide +kernel
theorem d_Law_weight_30 : decode b_Law_weight 30 = .ok (.iconst 0, 1) := by decide +kernel
theorem d_Law_weight_31 : decode b_Law_weight 31 = .ok (.ireturn, 1) := by decide +kernel
theorem d_Law_add_0 : decode b_Law_add 0 = .ok (.aload_n 3, 1) := by decide +kernel
theorem d_Law_add_1 : decode b_Law_add 1 = .ok (.iconst 0, 1) := by decide +kernel
theorem d_Law_add_2 : decode b_Law_add 2 = .ok (.aload_n 0, 1) := by decide +kernel
theorem d_Law_add_3 : decode b_Law_add 3 = .ok (.iload_n 1, 1) := by decide +kernel
theorem d_Law_add_4 : decode b_Law_add 4 = .ok (.iload_n 2, 1) := by decide +kernel
theorem d_Law_add_5 : decode b_Law_add 5 = .ok (.invokevirtual 23, 3) := by decide +kernel
theorem d_Law_add_8 : decode b_Law_add 8 = .ok (.i2l, 1) := by decide +kernel
theorem d_Law_add_9 : decode b_Law_add 9 = .ok (.lastore, 1) := by decide +kernel
theorem d_Law_add_10 : decode b_Law_add 10 = .ok (.goto 19, 3) := by decide +kernel
theorem d_Law_add_13 : decode b_Law_add 13 = .ok (.astore 4, 2) := by decide +kernel
theorem d_Law_add_15 : decode b_Law_add 15 = .ok (.iconst 1, 1) := by decide +kernel
theorem d_Law_add_16 : decode b_Law_add 16 = .ok (.ireturn, 1) := by decide +kernel
theorem d_Law_add_17 : decode b_Law_add 17 = .ok (.astore 4, 2) := by decide +kernel
theorem d_Law_add_19 : decode b_Law_add 19 = .ok (.iconst 2, 1) := by decide +kernel
theorem d_Law_add_20 : decode b_Law_add 20 = .ok (.ireturn, 1) := by decide +kernel
theorem d_Law_add_21 : decode b_Law_add 21 = .ok (.astore 4, 2) := by decide +kernel
theorem d_Law_add_23 : decode b_Law_add 23 = .ok (.iconst 3, 1) := by decide +kernel
theorem d_Law_add_24 : decode b_Law_add 24 = .ok (.ireturn, 1) := by decide +kernel
theorem d_Law_add_25 : decode b_Law_add 25 = .ok (.astore 4, 2) := by decide +kernel
theorem d_Law_add_27 : decode b_Law_add 27 = .ok (.iconst 4, 1) := by decide +kernel
theorem d_Law_add_28 : decode b_Law_add 28 = .ok (.ireturn, 1) := by decide +kernel
theorem d_Law_add_29 : decode b_Law_add 29 = .ok (.iconst 0, 1) := by decide +kernel
theorem d_Law_add_30 : decode b_Law_add 30 = .ok (.ireturn, 1) := by decide +kernel
theorem d_Law_times_0 : decode b_Law_times 0 = .ok (.aload 4, 2) := by decide +kernel
theorem d_Law_times_2 : decode b_Law_times 2 = .ok (.iconst 0, 1) := by decide +kernel
theorem d_Law_times_3 : decode b_Law_times 3 = .ok (.aload_n 0, 1) := by decide +kernel
theorem d_Law_times_4 : decode b_Law_times 4 = .ok (.iload_n 1, 1) := by decide +kernel
theorem d_Law_times_5 : decode b_Law_times 5 = .ok (.iload_n 2, 1) := by decide +kernel
theorem d_Law_times_6 : decode b_Law_times 6 = .ok (.iload_n 3, 1) := by decide +kernel
theorem d_Law_times_7 : decode b_Law_times 7 = .ok (.invokevirtual 28, 3) := by decide +kernel
theorem d_Law_times_10 : decode b_Law_times 10 = .ok (.i2l, 1) := by decide +kernel
theorem d_Law_times_11 : decode b_Law_times 11 = .ok (.lastore, 1) := by decide +kernel
theorem d_Law_times_12 : decode b_Law_times 12 = .ok (.goto 19, 3) := by decide +kernel
theorem d_Law_times_15 : decode b_Law_times 15 = .ok (.astore 5, 2) := by decide +kernel
theorem d_Law_times_17 : decode b_Law_times 17 = .ok (.iconst 1, 1) := by decide +kernel
theorem d_Law_times_18 : decode b_Law_times 18 = .ok (.ireturn, 1) := by decide +kernel
theorem d_Law_times_19 : decode b_Law_times 19 = .ok (.astore 5, 2) := by decide +kernel
theorem d_Law_times_21 : decode b_Law_times 21 = .ok (.iconst 2, 1) := by decide +kernel
theorem d_Law_times_22 : decode b_Law_times 22 = .ok (.ireturn, 1) := by decide +kernel
theorem d_Law_times_23 : decode b_Law_times 23 = .ok (.astore 5, 2) := by decide +kernel
theorem d_Law_times_25 : decode b_Law_times 25 = .ok (.iconst 3, 1) := by decide +kernel
theorem d_Law_times_26 : decode b_Law_times 26 = .ok (.ireturn, 1) := by decide +kernel
theorem d_Law_times_27 : decode b_Law_times 27 = .ok (.astore 5, 2) := by decide +kernel
theorem d_Law_times_29 : decode b_Law_times 29 = .ok (.iconst 4, 1) := by decide +kernel
theorem d_Law_times_30 : decode b_Law_times 30 = .ok (.ireturn, 1) := by decide +kernel
theorem d_Law_times_31 : decode b_Law_times 31 = .ok (.iconst 0, 1) := by decide +kernel
theorem d_Law_times_32 : decode b_Law_times 32 = .ok (.ireturn, 1) := by decide +kernel
theorem d_Law_least_0 : decode b_Law_least 0 = .ok (.aload 4, 2) := by decide +kernel
theorem d_Law_least_2 : decode b_Law_least 2 = .ok (.iconst 0, 1) := by decide +kernel
theorem d_Law_least_3 : decode b_Law_least 3 = .ok (.aload_n 0, 1) := by decide +kernel
theorem d_Law_least_4 : decode b_Law_least 4 = .ok (.iload_n 1, 1) := by decide +kernel
theorem d_Law_least_5 : decode b_Law_least 5 = .ok (.iload_n 2, 1) := by decide +kernel
theorem d_Law_least_6 : decode b_Law_least 6 = .ok (.iload_n 3, 1) := by decide +kernel
theorem d_Law_least_7 : decode b_Law_least 7 = .ok (.invokevirtual 32, 3) := by decide +kernel
theorem d_Law_least_10 : decode b_Law_least 10 = .ok (.i2l, 1) := by decide +kernel
theorem d_Law_least_11 : decode b_Law_least 11 = .ok (.lastore, 1) := by decide +kernel
theorem d_Law_least_12 : decode b_Law_least 12 = .ok (.goto 15, 3) := by decide +kernel
theorem d_Law_least_15 : decode b_Law_least 15 = .ok (.astore 5, 2) := by decide +kernel
theorem d_Law_least_17 : decode b_Law_least 17 = .ok (.iconst 1, 1) := by decide +kernel
theorem d_Law_least_18 : decode b_Law_least 18 = .ok (.ireturn, 1) := by decide +kernel
theorem d_Law_least_19 : decode b_Law_least 19 = .ok (.astore 5, 2) := by decide +kernel
theorem d_Law_least_21 : decode b_Law_least 21 = .ok (.iconst 2, 1) := by decide +kernel
