theorem d_Law_least_22 : decode b_Law_least 22 = .ok (.ireturn, 1) := by decide +kernel
theorem d_Law_least_23 : decode b_Law_least 23 = .ok (.astore 5, 2) := by decide +kernel
theorem d_Law_least_25 : decode b_Law_least 25 = .ok (.iconst 3, 1) := by decide +kernel
theorem d_Law_least_26 : decode b_Law_least 26 = .ok (.ireturn, 1) := by decide +kernel
theorem d_Law_least_27 : decode b_Law_least 27 = .ok (.iconst 0, 1) := by decide +kernel
theorem d_Law_least_28 : decode b_Law_least 28 = .ok (.ireturn, 1) := by decide +kernel
theorem d_Law_span_0 : decode b_Law_span 0 = .ok (.aload_n 3, 1) := by decide +kernel
theorem d_Law_span_1 : decode b_Law_span 1 = .ok (.iconst 0, 1) := by decide +kernel
theorem d_Law_span_2 : decode b_Law_span 2 = .ok (.aload_n 0, 1) := by decide +kernel
theorem d_Law_span_3 : decode b_Law_span 3 = .ok (.iload_n 1, 1) := by decide +kernel
theorem d_Law_span_4 : decode b_Law_span 4 = .ok (.iload_n 2, 1) := by decide +kernel
theorem d_Law_span_5 : decode b_Law_span 5 = .ok (.invokevirtual 35, 3) := by decide +kernel
theorem d_Law_span_8 : decode b_Law_span 8 = .ok (.i2l, 1) := by decide +kernel
theorem d_Law_span_9 : decode b_Law_span 9 = .ok (.lastore, 1) := by decide +kernel
theorem d_Law_span_10 : decode b_Law_span 10 = .ok (.goto 7, 3) := by decide +kernel
theorem d_Law_span_13 : decode b_Law_span 13 = .ok (.astore 4, 2) := by decide +kernel
theorem d_Law_span_15 : decode b_Law_span 15 = .ok (.iconst 1, 1) := by decide +kernel
theorem d_Law_span_16 : decode b_Law_span 16 = .ok (.ireturn, 1) := by decide +kernel
theorem d_Law_span_17 : decode b_Law_span 17 = .ok (.iconst 0, 1) := by decide +kernel
theorem d_Law_span_18 : decode b_Law_span 18 = .ok (.ireturn, 1) := by decide +kernel
theorem d_Law_digit_0 : decode b_Law_digit 0 = .ok (.aload 4, 2) := by decide +kernel
theorem d_Law_digit_2 : decode b_Law_digit 2 = .ok (.iconst 0, 1) := by decide +kernel
theorem d_Law_digit_3 : decode b_Law_digit 3 = .ok (.aload_n 0, 1) := by decide +kernel
theorem d_Law_digit_4 : decode b_Law_digit 4 = .ok (.iload_n 1, 1) := by decide +kernel
theorem d_Law_digit_5 : decode b_Law_digit 5 = .ok (.iload_n 2, 1) := by decide +kernel
theorem d_Law_digit_6 : decode b_Law_digit 6 = .ok (.iload_n 3, 1) := by decide +kernel
theorem d_Law_digit_7 : decode b_Law_digit 7 = .ok (.invokevirtual 38, 3) := by decide +kernel
theorem d_Law_digit_10 : decode b_Law_digit 10 = .ok (.i2l, 1) := by decide +kernel
theorem d_Law_digit_11 : decode b_Law_digit 11 = .ok (.lastore, 1) := by decide +kernel
theorem d_Law_digit_12 : decode b_Law_digit 12 = .ok (.goto 7, 3) := by decide +kernel
theorem d_Law_digit_15 : decode b_Law_digit 15 = .ok (.astore 5, 2) := by decide +kernel
theorem d_Law_digit_17 : decode b_Law_digit 17 = .ok (.iconst 1, 1) := by decide +kernel
theorem d_Law_digit_18 : decode b_Law_digit 18 = .ok (.ireturn, 1) := by decide +kernel
theorem d_Law_digit_19 : decode b_Law_digit 19 = .ok (.iconst 0, 1) := by decide +kernel
theorem d_Law_digit_20 : decode b_Law_digit 20 = .ok (.ireturn, 1) := by decide +kernel
theorem d_Law_total_0 : decode b_Law_total 0 = .ok (.aload_n 3, 1) := by decide +kernel
theorem d_Law_total_1 : decode b_Law_total 1 = .ok (.iconst 0, 1) := by decide +kernel
theorem d_Law_total_2 : decode b_Law_total 2 = .ok (.aload_n 0, 1) := by decide +kernel
theorem d_Law_total_3 : decode b_Law_total 3 = .ok (.iload_n 1, 1) := by decide +kernel
theorem d_Law_total_4 : decode b_Law_total 4 = .ok (.iload_n 2, 1) := by decide +kernel
theorem d_Law_total_5 : decode b_Law_total 5 = .ok (.invokevirtual 41, 3) := by decide +kernel
theorem d_Law_total_8 : decode b_Law_total 8 = .ok (.i2l, 1) := by decide +kernel
theorem d_Law_total_9 : decode b_Law_total 9 = .ok (.lastore, 1) := by decide +kernel
theorem d_Law_total_10 : decode b_Law_total 10 = .ok (.goto 7, 3) := by decide +kernel
theorem d_Law_total_13 : decode b_Law_total 13 = .ok (.astore 4, 2) := by decide +kernel
theorem d_Law_total_15 : decode b_Law_total 15 = .ok (.iconst 1, 1) := by decide +kernel
theorem d_Law_total_16 : decode b_Law_total 16 = .ok (.ireturn, 1) := by decide +kernel
theorem d_Law_total_17 : decode b_Law_total 17 = .ok (.iconst 0, 1) := by decide +kernel
theorem d_Law_total_18 : decode b_Law_total 18 = .ok (.ireturn, 1) := by decide +kernel
theorem d_Law_compare_0 : decode b_Law_compare 0 = .ok (.aload 5, 2) := by decide +kernel
theorem d_Law_compare_2 : decode b_Law_compare 2 = .ok (.iconst 0, 1) := by decide +kernel
theorem d_Law_compare_3 : decode b_Law_compare 3 = .ok (.aload_n 0, 1) := by decide +kernel
theorem d_Law_compare_4 : decode b_Law_compare 4 = .ok (.iload_n 1, 1) := by decide +kernel
theorem d_Law_compare_5 : decode b_Law_compare 5 = .ok (.iload_n 2, 1) := by decide +kernel
theorem d_Law_compare_6 : decode b_Law_compare 6 = .ok (.iload_n 3, 1) := by decide +kernel
theorem d_Law_compare_7 : decode b_Law_compare 7 = .ok (.iload 4, 2) := by decide +kernel
theorem d_Law_compare_9 : decode b_Law_compare 9 = .ok (.invokevirtual 44, 3) := by decide +kernel
theorem d_Law_compare_12 : decode b_Law_compare 12 = .ok (.i2l, 1) := by decide +kernel
theorem d_Law_compare_13 : decode b_Law_compare 13 = .ok (.lastore, 1) := by decide +kernel
theorem d_Law_compare_14 : decode b_Law_compare 14 = .ok (.goto 7, 3) := by decide +kernel
theorem d_Law_compare_17 : decode b_Law_compare 17 = .ok (.astore 6, 2) := by decide +kernel
theorem d_Law_compare_19 : decode b_Law_compare 19 = .ok (.iconst 1, 1) := by decide +kernel
theorem d_Law_compare_20 : decode b_Law_compare 20 = .ok (.ireturn, 1) := by decide +kernel
theorem d_Law_compare_21 : decode b_Law_compare 21 = .ok (.iconst 0, 1) := by decide +kernel
theorem d_Law_compare_22 : decode b_Law_compare 22 = .ok (.ireturn, 1) := by decide +kernel
theorem d_Law_about_0 : decode b_Law_about 0 = .ok (.aload_n 3, 1) := by decide +kernel
theorem d_Law_about_1 : decode b_Law_about 1 = .ok (.iconst 0, 1) := by decide +kernel
theorem d_Law_about_2 : decode b_Law_about 2 = .ok (.aload_n 0, 1) := by decide +kernel
theorem d_Law_about_3 : decode b_Law_about 3 = .ok (.iload_n 1, 1) := by decide +kernel
theorem d_Law_about_4 : decode b_Law_about 4 = .ok (.iload_n 2, 1) := by decide +kernel
theorem d_Law_about_5 : decode b_Law_about 5 = .ok (.invokevirtual 48, 3) := by decide +kernel
theorem d_Law_about_8 : decode b_Law_about 8 = .ok (.i2l, 1) := by decide +kernel
theorem d_Law_about_9 : decode b_Law_about 9 = .ok (.lastore, 1) := by decide +kernel
theorem d_Law_about_10 : decode b_Law_about 10 = .ok (.goto 11, 3) := by decide +kernel
theorem d_Law_about_13 : decode b_Law_about 13 = .ok (.astore 4, 2) := by decide +kernel
theorem d_Law_about_15 : decode b_Law_about 15 = .ok (.iconst 1, 1) := by decide +kernel
theorem d_Law_about_16 : decode b_Law_about 16 = .ok (.ireturn, 1) := by decide +kernel
theorem d_Law_about_17 : decode b_Law_about 17 = .ok (.astore 4, 2) := by decide +kernel
theorem d_Law_about_19 : decode b_Law_about 19 = .ok (.iconst 2, 1) := by decide +kernel
theorem d_Law_about_20 : decode b_Law_about 20 = .ok (.ireturn, 1) := by decide +kernel
theorem d_Law_about_21 : decode b_Law_about 21 = .ok (.iconst 0, 1) := by decide +kernel
theorem d_Law_about_22 : decode b_Law_about 22 = .ok (.ireturn, 1) := by decide +kernel
theorem d_Law_over_0 : decode b_Law_over 0 = .ok (.aload 5, 2) := by decide +kernel
theorem d_Law_over_2 : decode b_Law_over 2 = .ok (.iconst 0, 1) := by decide +kernel
theorem d_Law_over_3 : decode b_Law_over 3 = .ok (.aload_n 0, 1) := by decide +kernel
theorem d_Law_over_4 : decode b_Law_over 4 = .ok (.lload_n 1, 1) := by decide +kernel
theorem d_Law_over_5 : decode b_Law_over 5 = .ok (.lload_n 3, 1) := by decide +kernel
theorem d_Law_over_6 : decode b_Law_over 6 = .ok (.invokevirtual 51, 3) := by decide +kernel
theorem d_Law_over_9 : decode b_Law_over 9 = .ok (.lastore, 1) := by decide +kernel
theorem d_Law_over_10 : decode b_Law_over 10 = .ok (.goto 7, 3) := by decide +kernel
theorem d_Law_over_13 : decode b_Law_over 13 = .ok (.astore 6, 2) := by decide +kernel
theorem d_Law_over_15 : decode b_Law_over 15 = .ok (.iconst 1, 1) := by decide +kernel
theorem d_Law_over_16 : decode b_Law_over 16 = .ok (.ireturn, 1) := by decide +kernel
theorem d_Law_over_17 : decode b_Law_over 17 = .ok (.iconst 0, 1) := by decide +kernel
theorem d_Law_over_18 : decode b_Law_over 18 = .ok (.ireturn, 1) := by decide +kernel
theorem d_Law_day_0 : decode b_Law_day 0 = .ok (.aload 5, 2) := by decide +kernel
theorem d_Law_day_2 : decode b_Law_day 2 = .ok (.iconst 0, 1) := by decide +kernel
theorem d_Law_day_3 : decode b_Law_day 3 = .ok (.aload_n 0, 1) := by decide +kernel
theorem d_Law_day_4 : decode b_Law_day 4 = .ok (.iload_n 1, 1) := by decide +kernel
theorem d_Law_day_5 : decode b_Law_day 5 = .ok (.iload_n 2, 1) := by decide +kernel
