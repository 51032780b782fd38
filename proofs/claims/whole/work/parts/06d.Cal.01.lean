theorem d_Cal_months_0 : decode b_Cal_months 0 = .ok (.iload_n 0, 1) := by decide +kernel
theorem d_Cal_months_1 : decode b_Cal_months 1 = .ok (.iconst 3, 1) := by decide +kernel
theorem d_Cal_months_2 : decode b_Cal_months 2 = .ok (.if_icmp .ne 8, 3) := by decide +kernel
theorem d_Cal_months_5 : decode b_Cal_months 5 = .ok (.bipush 13, 2) := by decide +kernel
theorem d_Cal_months_7 : decode b_Cal_months 7 = .ok (.goto 5, 3) := by decide +kernel
theorem d_Cal_months_10 : decode b_Cal_months 10 = .ok (.bipush 12, 2) := by decide +kernel
theorem d_Cal_months_12 : decode b_Cal_months 12 = .ok (.ireturn, 1) := by decide +kernel
theorem d_Cal_isLeap_0 : decode b_Cal_isLeap 0 = .ok (.iload_n 0, 1) := by decide +kernel
theorem d_Cal_isLeap_1 : decode b_Cal_isLeap 1 = .ok (.tableswitch 84 0 2 #[27, 60, 74], 27) := by decide +kernel
theorem d_Cal_isLeap_28 : decode b_Cal_isLeap 28 = .ok (.iload_n 1, 1) := by decide +kernel
theorem d_Cal_isLeap_29 : decode b_Cal_isLeap 29 = .ok (.iconst 4, 1) := by decide +kernel
theorem d_Cal_isLeap_30 : decode b_Cal_isLeap 30 = .ok (.invokestatic 9, 3) := by decide +kernel
theorem d_Cal_isLeap_33 : decode b_Cal_isLeap 33 = .ok (.ifCond .ne 26, 3) := by decide +kernel
theorem d_Cal_isLeap_36 : decode b_Cal_isLeap 36 = .ok (.iload_n 1, 1) := by decide +kernel
theorem d_Cal_isLeap_37 : decode b_Cal_isLeap 37 = .ok (.bipush 100, 2) := by decide +kernel
theorem d_Cal_isLeap_39 : decode b_Cal_isLeap 39 = .ok (.invokestatic 9, 3) := by decide +kernel
theorem d_Cal_isLeap_42 : decode b_Cal_isLeap 42 = .ok (.ifCond .ne 13, 3) := by decide +kernel
theorem d_Cal_isLeap_45 : decode b_Cal_isLeap 45 = .ok (.iload_n 1, 1) := by decide +kernel
theorem d_Cal_isLeap_46 : decode b_Cal_isLeap 46 = .ok (.sipush 400, 3) := by decide +kernel
theorem d_Cal_isLeap_49 : decode b_Cal_isLeap 49 = .ok (.invokestatic 9, 3) := by decide +kernel
theorem d_Cal_isLeap_52 : decode b_Cal_isLeap 52 = .ok (.ifCond .ne 7, 3) := by decide +kernel
theorem d_Cal_isLeap_55 : decode b_Cal_isLeap 55 = .ok (.iconst 1, 1) := by decide +kernel
theorem d_Cal_isLeap_56 : decode b_Cal_isLeap 56 = .ok (.goto 4, 3) := by decide +kernel
theorem d_Cal_isLeap_59 : decode b_Cal_isLeap 59 = .ok (.iconst 0, 1) := by decide +kernel
theorem d_Cal_isLeap_60 : decode b_Cal_isLeap 60 = .ok (.ireturn, 1) := by decide +kernel
theorem d_Cal_isLeap_61 : decode b_Cal_isLeap 61 = .ok (.iload_n 1, 1) := by decide +kernel
theorem d_Cal_isLeap_62 : decode b_Cal_isLeap 62 = .ok (.iconst 4, 1) := by decide +kernel
theorem d_Cal_isLeap_63 : decode b_Cal_isLeap 63 = .ok (.invokestatic 9, 3) := by decide +kernel
theorem d_Cal_isLeap_66 : decode b_Cal_isLeap 66 = .ok (.ifCond .ne 7, 3) := by decide +kernel
theorem d_Cal_isLeap_69 : decode b_Cal_isLeap 69 = .ok (.iconst 1, 1) := by decide +kernel
theorem d_Cal_isLeap_70 : decode b_Cal_isLeap 70 = .ok (.goto 4, 3) := by decide +kernel
theorem d_Cal_isLeap_73 : decode b_Cal_isLeap 73 = .ok (.iconst 0, 1) := by decide +kernel
theorem d_Cal_isLeap_74 : decode b_Cal_isLeap 74 = .ok (.ireturn, 1) := by decide +kernel
theorem d_Cal_isLeap_75 : decode b_Cal_isLeap 75 = .ok (.iload_n 1, 1) := by decide +kernel
theorem d_Cal_isLeap_76 : decode b_Cal_isLeap 76 = .ok (.bipush 30, 2) := by decide +kernel
theorem d_Cal_isLeap_78 : decode b_Cal_isLeap 78 = .ok (.invokestatic 9, 3) := by decide +kernel
theorem d_Cal_isLeap_81 : decode b_Cal_isLeap 81 = .ok (.invokestatic 15, 3) := by decide +kernel
theorem d_Cal_isLeap_84 : decode b_Cal_isLeap 84 = .ok (.ireturn, 1) := by decide +kernel
theorem d_Cal_isLeap_85 : decode b_Cal_isLeap 85 = .ok (.iconst 0, 1) := by decide +kernel
theorem d_Cal_isLeap_86 : decode b_Cal_isLeap 86 = .ok (.ireturn, 1) := by decide +kernel
theorem d_Cal_isLunarLeap_0 : decode b_Cal_isLunarLeap 0 = .ok (.getstatic 19, 3) := by decide +kernel
theorem d_Cal_isLunarLeap_3 : decode b_Cal_isLunarLeap 3 = .ok (.astore_n 1, 1) := by decide +kernel
theorem d_Cal_isLunarLeap_4 : decode b_Cal_isLunarLeap 4 = .ok (.aload_n 1, 1) := by decide +kernel
theorem d_Cal_isLunarLeap_5 : decode b_Cal_isLunarLeap 5 = .ok (.arraylength, 1) := by decide +kernel
theorem d_Cal_isLunarLeap_6 : decode b_Cal_isLunarLeap 6 = .ok (.istore_n 2, 1) := by decide +kernel
theorem d_Cal_isLunarLeap_7 : decode b_Cal_isLunarLeap 7 = .ok (.iconst 0, 1) := by decide +kernel
theorem d_Cal_isLunarLeap_8 : decode b_Cal_isLunarLeap 8 = .ok (.istore_n 3, 1) := by decide +kernel
theorem d_Cal_isLunarLeap_9 : decode b_Cal_isLunarLeap 9 = .ok (.iload_n 3, 1) := by decide +kernel
theorem d_Cal_isLunarLeap_10 : decode b_Cal_isLunarLeap 10 = .ok (.iload_n 2, 1) := by decide +kernel
theorem d_Cal_isLunarLeap_11 : decode b_Cal_isLunarLeap 11 = .ok (.if_icmp .ge 22, 3) := by decide +kernel
theorem d_Cal_isLunarLeap_14 : decode b_Cal_isLunarLeap 14 = .ok (.aload_n 1, 1) := by decide +kernel
theorem d_Cal_isLunarLeap_15 : decode b_Cal_isLunarLeap 15 = .ok (.iload_n 3, 1) := by decide +kernel
theorem d_Cal_isLunarLeap_16 : decode b_Cal_isLunarLeap 16 = .ok (.iaload, 1) := by decide +kernel
theorem d_Cal_isLunarLeap_17 : decode b_Cal_isLunarLeap 17 = .ok (.istore 4, 2) := by decide +kernel
theorem d_Cal_isLunarLeap_19 : decode b_Cal_isLunarLeap 19 = .ok (.iload 4, 2) := by decide +kernel
theorem d_Cal_isLunarLeap_21 : decode b_Cal_isLunarLeap 21 = .ok (.iload_n 0, 1) := by decide +kernel
theorem d_Cal_isLunarLeap_22 : decode b_Cal_isLunarLeap 22 = .ok (.if_icmp .ne 5, 3) := by decide +kernel
theorem d_Cal_isLunarLeap_25 : decode b_Cal_isLunarLeap 25 = .ok (.iconst 1, 1) := by decide +kernel
theorem d_Cal_isLunarLeap_26 : decode b_Cal_isLunarLeap 26 = .ok (.ireturn, 1) := by decide +kernel
theorem d_Cal_isLunarLeap_27 : decode b_Cal_isLunarLeap 27 = .ok (.iinc 3 1, 3) := by decide +kernel
theorem d_Cal_isLunarLeap_30 : decode b_Cal_isLunarLeap 30 = .ok (.goto (-21), 3) := by decide +kernel
theorem d_Cal_isLunarLeap_33 : decode b_Cal_isLunarLeap 33 = .ok (.iconst 0, 1) := by decide +kernel
theorem d_Cal_isLunarLeap_34 : decode b_Cal_isLunarLeap 34 = .ok (.ireturn, 1) := by decide +kernel
theorem d_Cal_lunarLeapsTo_0 : decode b_Cal_lunarLeapsTo 0 = .ok (.iconst 0, 1) := by decide +kernel
theorem d_Cal_lunarLeapsTo_1 : decode b_Cal_lunarLeapsTo 1 = .ok (.istore_n 1, 1) := by decide +kernel
theorem d_Cal_lunarLeapsTo_2 : decode b_Cal_lunarLeapsTo 2 = .ok (.getstatic 19, 3) := by decide +kernel
theorem d_Cal_lunarLeapsTo_5 : decode b_Cal_lunarLeapsTo 5 = .ok (.astore_n 2, 1) := by decide +kernel
theorem d_Cal_lunarLeapsTo_6 : decode b_Cal_lunarLeapsTo 6 = .ok (.aload_n 2, 1) := by decide +kernel
theorem d_Cal_lunarLeapsTo_7 : decode b_Cal_lunarLeapsTo 7 = .ok (.arraylength, 1) := by decide +kernel
theorem d_Cal_lunarLeapsTo_8 : decode b_Cal_lunarLeapsTo 8 = .ok (.istore_n 3, 1) := by decide +kernel
theorem d_Cal_lunarLeapsTo_9 : decode b_Cal_lunarLeapsTo 9 = .ok (.iconst 0, 1) := by decide +kernel
theorem d_Cal_lunarLeapsTo_10 : decode b_Cal_lunarLeapsTo 10 = .ok (.istore 4, 2) := by decide +kernel
theorem d_Cal_lunarLeapsTo_12 : decode b_Cal_lunarLeapsTo 12 = .ok (.iload 4, 2) := by decide +kernel
theorem d_Cal_lunarLeapsTo_14 : decode b_Cal_lunarLeapsTo 14 = .ok (.iload_n 3, 1) := by decide +kernel
theorem d_Cal_lunarLeapsTo_15 : decode b_Cal_lunarLeapsTo 15 = .ok (.if_icmp .ge 24, 3) := by decide +kernel
theorem d_Cal_lunarLeapsTo_18 : decode b_Cal_lunarLeapsTo 18 = .ok (.aload_n 2, 1) := by decide +kernel
theorem d_Cal_lunarLeapsTo_19 : decode b_Cal_lunarLeapsTo 19 = .ok (.iload 4, 2) := by decide +kernel
theorem d_Cal_lunarLeapsTo_21 : decode b_Cal_lunarLeapsTo 21 = .ok (.iaload, 1) := by decide +kernel
theorem d_Cal_lunarLeapsTo_22 : decode b_Cal_lunarLeapsTo 22 = .ok (.istore 5, 2) := by decide +kernel
theorem d_Cal_lunarLeapsTo_24 : decode b_Cal_lunarLeapsTo 24 = .ok (.iload 5, 2) := by decide +kernel
theorem d_Cal_lunarLeapsTo_26 : decode b_Cal_lunarLeapsTo 26 = .ok (.iload_n 0, 1) := by decide +kernel
theorem d_Cal_lunarLeapsTo_27 : decode b_Cal_lunarLeapsTo 27 = .ok (.if_icmp .gt 6, 3) := by decide +kernel
theorem d_Cal_lunarLeapsTo_30 : decode b_Cal_lunarLeapsTo 30 = .ok (.iinc 1 1, 3) := by decide +kernel
theorem d_Cal_lunarLeapsTo_33 : decode b_Cal_lunarLeapsTo 33 = .ok (.iinc 4 1, 3) := by decide +kernel
theorem d_Cal_lunarLeapsTo_36 : decode b_Cal_lunarLeapsTo 36 = .ok (.goto (-24), 3) := by decide +kernel
theorem d_Cal_lunarLeapsTo_39 : decode b_Cal_lunarLeapsTo 39 = .ok (.iload_n 1, 1) := by decide +kernel
theorem d_Cal_lunarLeapsTo_40 : decode b_Cal_lunarLeapsTo 40 = .ok (.ireturn, 1) := by decide +kernel
theorem d_Cal_monthDays_0 : decode b_Cal_monthDays 0 = .ok (.iload_n 0, 1) := by decide +kernel
theorem d_Cal_monthDays_1 : decode b_Cal_monthDays 1 = .ok (.lookupswitch 69 #[(2, 27), (3, 56)], 27) := by decide +kernel
theorem d_Cal_monthDays_28 : decode b_Cal_monthDays 28 = .ok (.iload_n 2, 1) := by decide +kernel
theorem d_Cal_monthDays_29 : decode b_Cal_monthDays 29 = .ok (.iconst 2, 1) := by decide +kernel
theorem d_Cal_monthDays_30 : decode b_Cal_monthDays 30 = .ok (.irem, 1) := by decide +kernel
theorem d_Cal_monthDays_31 : decode b_Cal_monthDays 31 = .ok (.iconst 1, 1) := by decide +kernel
theorem d_Cal_monthDays_32 : decode b_Cal_monthDays 32 = .ok (.if_icmp .eq 17, 3) := by decide +kernel
theorem d_Cal_monthDays_35 : decode b_Cal_monthDays 35 = .ok (.iload_n 2, 1) := by decide +kernel
theorem d_Cal_monthDays_36 : decode b_Cal_monthDays 36 = .ok (.bipush 12, 2) := by decide +kernel
theorem d_Cal_monthDays_38 : decode b_Cal_monthDays 38 = .ok (.if_icmp .ne 16, 3) := by decide +kernel
theorem d_Cal_monthDays_41 : decode b_Cal_monthDays 41 = .ok (.iload_n 0, 1) := by decide +kernel
theorem d_Cal_monthDays_42 : decode b_Cal_monthDays 42 = .ok (.iload_n 1, 1) := by decide +kernel
theorem d_Cal_monthDays_43 : decode b_Cal_monthDays 43 = .ok (.invokestatic 23, 3) := by decide +kernel
theorem d_Cal_monthDays_46 : decode b_Cal_monthDays 46 = .ok (.ifCond .eq 8, 3) := by decide +kernel
theorem d_Cal_monthDays_49 : decode b_Cal_monthDays 49 = .ok (.bipush 30, 2) := by decide +kernel
theorem d_Cal_monthDays_51 : decode b_Cal_monthDays 51 = .ok (.goto 5, 3) := by decide +kernel
theorem d_Cal_monthDays_54 : decode b_Cal_monthDays 54 = .ok (.bipush 29, 2) := by decide +kernel
theorem d_Cal_monthDays_56 : decode b_Cal_monthDays 56 = .ok (.ireturn, 1) := by decide +kernel
theorem d_Cal_monthDays_57 : decode b_Cal_monthDays 57 = .ok (.iload_n 2, 1) := by decide +kernel
theorem d_Cal_monthDays_58 : decode b_Cal_monthDays 58 = .ok (.bipush 13, 2) := by decide +kernel
theorem d_Cal_monthDays_60 : decode b_Cal_monthDays 60 = .ok (.if_icmp .ne 7, 3) := by decide +kernel
theorem d_Cal_monthDays_63 : decode b_Cal_monthDays 63 = .ok (.iconst 5, 1) := by decide +kernel
theorem d_Cal_monthDays_64 : decode b_Cal_monthDays 64 = .ok (.goto 5, 3) := by decide +kernel
theorem d_Cal_monthDays_67 : decode b_Cal_monthDays 67 = .ok (.bipush 30, 2) := by decide +kernel
theorem d_Cal_monthDays_69 : decode b_Cal_monthDays 69 = .ok (.ireturn, 1) := by decide +kernel
theorem d_Cal_monthDays_70 : decode b_Cal_monthDays 70 = .ok (.iload_n 2, 1) := by decide +kernel
theorem d_Cal_monthDays_71 : decode b_Cal_monthDays 71 = .ok (.iconst 2, 1) := by decide +kernel
theorem d_Cal_monthDays_72 : decode b_Cal_monthDays 72 = .ok (.if_icmp .ne 16, 3) := by decide +kernel
theorem d_Cal_monthDays_75 : decode b_Cal_monthDays 75 = .ok (.iload_n 0, 1) := by decide +kernel
theorem d_Cal_monthDays_76 : decode b_Cal_monthDays 76 = .ok (.iload_n 1, 1) := by decide +kernel
theorem d_Cal_monthDays_77 : decode b_Cal_monthDays 77 = .ok (.invokestatic 23, 3) := by decide +kernel
theorem d_Cal_monthDays_80 : decode b_Cal_monthDays 80 = .ok (.ifCond .eq 8, 3) := by decide +kernel
theorem d_Cal_monthDays_83 : decode b_Cal_monthDays 83 = .ok (.bipush 29, 2) := by decide +kernel
theorem d_Cal_monthDays_85 : decode b_Cal_monthDays 85 = .ok (.goto 10, 3) := by decide +kernel
theorem d_Cal_monthDays_88 : decode b_Cal_monthDays 88 = .ok (.getstatic 27, 3) := by decide +kernel
theorem d_Cal_monthDays_91 : decode b_Cal_monthDays 91 = .ok (.iload_n 2, 1) := by decide +kernel
theorem d_Cal_monthDays_92 : decode b_Cal_monthDays 92 = .ok (.iconst 1, 1) := by decide +kernel
theorem d_Cal_monthDays_93 : decode b_Cal_monthDays 93 = .ok (.isub, 1) := by decide +kernel
theorem d_Cal_monthDays_94 : decode b_Cal_monthDays 94 = .ok (.iaload, 1) := by decide +kernel
theorem d_Cal_monthDays_95 : decode b_Cal_monthDays 95 = .ok (.ireturn, 1) := by decide +kernel
theorem d_Cal_daysAhead_0 : decode b_Cal_daysAhead 0 = .ok (.iconst 0, 1) := by decide +kernel
theorem d_Cal_daysAhead_1 : decode b_Cal_daysAhead 1 = .ok (.istore_n 3, 1) := by decide +kernel
theorem d_Cal_daysAhead_2 : decode b_Cal_daysAhead 2 = .ok (.iconst 1, 1) := by decide +kernel
theorem d_Cal_daysAhead_3 : decode b_Cal_daysAhead 3 = .ok (.istore 4, 2) := by decide +kernel
theorem d_Cal_daysAhead_5 : decode b_Cal_daysAhead 5 = .ok (.iload 4, 2) := by decide +kernel
theorem d_Cal_daysAhead_7 : decode b_Cal_daysAhead 7 = .ok (.iload_n 2, 1) := by decide +kernel
theorem d_Cal_daysAhead_8 : decode b_Cal_daysAhead 8 = .ok (.if_icmp .ge 19, 3) := by decide +kernel
theorem d_Cal_daysAhead_11 : decode b_Cal_daysAhead 11 = .ok (.iload_n 3, 1) := by decide +kernel
theorem d_Cal_daysAhead_12 : decode b_Cal_daysAhead 12 = .ok (.iload_n 0, 1) := by decide +kernel
theorem d_Cal_daysAhead_13 : decode b_Cal_daysAhead 13 = .ok (.iload_n 1, 1) := by decide +kernel
theorem d_Cal_daysAhead_14 : decode b_Cal_daysAhead 14 = .ok (.iload 4, 2) := by decide +kernel
theorem d_Cal_daysAhead_16 : decode b_Cal_daysAhead 16 = .ok (.invokestatic 30, 3) := by decide +kernel
theorem d_Cal_daysAhead_19 : decode b_Cal_daysAhead 19 = .ok (.iadd, 1) := by decide +kernel
theorem d_Cal_daysAhead_20 : decode b_Cal_daysAhead 20 = .ok (.istore_n 3, 1) := by decide +kernel
theorem d_Cal_daysAhead_21 : decode b_Cal_daysAhead 21 = .ok (.iinc 4 1, 3) := by decide +kernel
theorem d_Cal_daysAhead_24 : decode b_Cal_daysAhead 24 = .ok (.goto (-19), 3) := by decide +kernel
theorem d_Cal_daysAhead_27 : decode b_Cal_daysAhead 27 = .ok (.iload_n 3, 1) := by decide +kernel
theorem d_Cal_daysAhead_28 : decode b_Cal_daysAhead 28 = .ok (.ireturn, 1) := by decide +kernel
theorem d_Cal_newYear_0 : decode b_Cal_newYear 0 = .ok (.iload_n 1, 1) := by decide +kernel
theorem d_Cal_newYear_1 : decode b_Cal_newYear 1 = .ok (.iconst 1, 1) := by decide +kernel
theorem d_Cal_newYear_2 : decode b_Cal_newYear 2 = .ok (.isub, 1) := by decide +kernel
theorem d_Cal_newYear_3 : decode b_Cal_newYear 3 = .ok (.istore_n 2, 1) := by decide +kernel
theorem d_Cal_newYear_4 : decode b_Cal_newYear 4 = .ok (.getstatic 34, 3) := by decide +kernel
theorem d_Cal_newYear_7 : decode b_Cal_newYear 7 = .ok (.iload_n 0, 1) := by decide +kernel
theorem d_Cal_newYear_8 : decode b_Cal_newYear 8 = .ok (.iaload, 1) := by decide +kernel
theorem d_Cal_newYear_9 : decode b_Cal_newYear 9 = .ok (.istore_n 3, 1) := by decide +kernel
theorem d_Cal_newYear_10 : decode b_Cal_newYear 10 = .ok (.iload_n 0, 1) := by decide +kernel
theorem d_Cal_newYear_11 : decode b_Cal_newYear 11 = .ok (.tableswitch 98 0 2 #[25, 54, 68], 25) := by decide +kernel
theorem d_Cal_newYear_36 : decode b_Cal_newYear 36 = .ok (.iload_n 3, 1) := by decide +kernel
theorem d_Cal_newYear_37 : decode b_Cal_newYear 37 = .ok (.sipush 365, 3) := by decide +kernel
theorem d_Cal_newYear_40 : decode b_Cal_newYear 40 = .ok (.iload_n 2, 1) := by decide +kernel
theorem d_Cal_newYear_41 : decode b_Cal_newYear 41 = .ok (.imul, 1) := by decide +kernel
theorem d_Cal_newYear_42 : decode b_Cal_newYear 42 = .ok (.iadd, 1) := by decide +kernel
theorem d_Cal_newYear_43 : decode b_Cal_newYear 43 = .ok (.iload_n 2, 1) := by decide +kernel
theorem d_Cal_newYear_44 : decode b_Cal_newYear 44 = .ok (.iconst 4, 1) := by decide +kernel
theorem d_Cal_newYear_45 : decode b_Cal_newYear 45 = .ok (.invokestatic 37, 3) := by decide +kernel
theorem d_Cal_newYear_48 : decode b_Cal_newYear 48 = .ok (.iadd, 1) := by decide +kernel
theorem d_Cal_newYear_49 : decode b_Cal_newYear 49 = .ok (.iload_n 2, 1) := by decide +kernel
theorem d_Cal_newYear_50 : decode b_Cal_newYear 50 = .ok (.bipush 100, 2) := by decide +kernel
theorem d_Cal_newYear_52 : decode b_Cal_newYear 52 = .ok (.invokestatic 37, 3) := by decide +kernel
theorem d_Cal_newYear_55 : decode b_Cal_newYear 55 = .ok (.isub, 1) := by decide +kernel
theorem d_Cal_newYear_56 : decode b_Cal_newYear 56 = .ok (.iload_n 2, 1) := by decide +kernel
theorem d_Cal_newYear_57 : decode b_Cal_newYear 57 = .ok (.sipush 400, 3) := by decide +kernel
theorem d_Cal_newYear_60 : decode b_Cal_newYear 60 = .ok (.invokestatic 37, 3) := by decide +kernel
theorem d_Cal_newYear_63 : decode b_Cal_newYear 63 = .ok (.iadd, 1) := by decide +kernel
theorem d_Cal_newYear_64 : decode b_Cal_newYear 64 = .ok (.ireturn, 1) := by decide +kernel
theorem d_Cal_newYear_65 : decode b_Cal_newYear 65 = .ok (.iload_n 3, 1) := by decide +kernel
theorem d_Cal_newYear_66 : decode b_Cal_newYear 66 = .ok (.sipush 365, 3) := by decide +kernel
theorem d_Cal_newYear_69 : decode b_Cal_newYear 69 = .ok (.iload_n 2, 1) := by decide +kernel
theorem d_Cal_newYear_70 : decode b_Cal_newYear 70 = .ok (.imul, 1) := by decide +kernel
theorem d_Cal_newYear_71 : decode b_Cal_newYear 71 = .ok (.iadd, 1) := by decide +kernel
theorem d_Cal_newYear_72 : decode b_Cal_newYear 72 = .ok (.iload_n 2, 1) := by decide +kernel
theorem d_Cal_newYear_73 : decode b_Cal_newYear 73 = .ok (.iconst 4, 1) := by decide +kernel
theorem d_Cal_newYear_74 : decode b_Cal_newYear 74 = .ok (.invokestatic 37, 3) := by decide +kernel
theorem d_Cal_newYear_77 : decode b_Cal_newYear 77 = .ok (.iadd, 1) := by decide +kernel
theorem d_Cal_newYear_78 : decode b_Cal_newYear 78 = .ok (.ireturn, 1) := by decide +kernel
theorem d_Cal_newYear_79 : decode b_Cal_newYear 79 = .ok (.iload_n 3, 1) := by decide +kernel
theorem d_Cal_newYear_80 : decode b_Cal_newYear 80 = .ok (.sipush 354, 3) := by decide +kernel
theorem d_Cal_newYear_83 : decode b_Cal_newYear 83 = .ok (.iload_n 2, 1) := by decide +kernel
theorem d_Cal_newYear_84 : decode b_Cal_newYear 84 = .ok (.imul, 1) := by decide +kernel
theorem d_Cal_newYear_85 : decode b_Cal_newYear 85 = .ok (.iadd, 1) := by decide +kernel
theorem d_Cal_newYear_86 : decode b_Cal_newYear 86 = .ok (.getstatic 19, 3) := by decide +kernel
theorem d_Cal_newYear_89 : decode b_Cal_newYear 89 = .ok (.arraylength, 1) := by decide +kernel
theorem d_Cal_newYear_90 : decode b_Cal_newYear 90 = .ok (.iload_n 2, 1) := by decide +kernel
theorem d_Cal_newYear_91 : decode b_Cal_newYear 91 = .ok (.bipush 30, 2) := by decide +kernel
theorem d_Cal_newYear_93 : decode b_Cal_newYear 93 = .ok (.invokestatic 37, 3) := by decide +kernel
theorem d_Cal_newYear_96 : decode b_Cal_newYear 96 = .ok (.imul, 1) := by decide +kernel
theorem d_Cal_newYear_97 : decode b_Cal_newYear 97 = .ok (.iadd, 1) := by decide +kernel
theorem d_Cal_newYear_98 : decode b_Cal_newYear 98 = .ok (.iload_n 2, 1) := by decide +kernel
theorem d_Cal_newYear_99 : decode b_Cal_newYear 99 = .ok (.bipush 30, 2) := by decide +kernel
theorem d_Cal_newYear_101 : decode b_Cal_newYear 101 = .ok (.invokestatic 9, 3) := by decide +kernel
theorem d_Cal_newYear_104 : decode b_Cal_newYear 104 = .ok (.invokestatic 40, 3) := by decide +kernel
theorem d_Cal_newYear_107 : decode b_Cal_newYear 107 = .ok (.iadd, 1) := by decide +kernel
theorem d_Cal_newYear_108 : decode b_Cal_newYear 108 = .ok (.ireturn, 1) := by decide +kernel
theorem d_Cal_newYear_109 : decode b_Cal_newYear 109 = .ok (.iload_n 3, 1) := by decide +kernel
theorem d_Cal_newYear_110 : decode b_Cal_newYear 110 = .ok (.sipush 365, 3) := by decide +kernel
theorem d_Cal_newYear_113 : decode b_Cal_newYear 113 = .ok (.iload_n 2, 1) := by decide +kernel
theorem d_Cal_newYear_114 : decode b_Cal_newYear 114 = .ok (.imul, 1) := by decide +kernel
theorem d_Cal_newYear_115 : decode b_Cal_newYear 115 = .ok (.iadd, 1) := by decide +kernel
theorem d_Cal_newYear_116 : decode b_Cal_newYear 116 = .ok (.ireturn, 1) := by decide +kernel
theorem d_Cal_yearOf_0 : decode b_Cal_yearOf 0 = .ok (.iload_n 1, 1) := by decide +kernel
theorem d_Cal_yearOf_1 : decode b_Cal_yearOf 1 = .ok (.getstatic 34, 3) := by decide +kernel
theorem d_Cal_yearOf_4 : decode b_Cal_yearOf 4 = .ok (.iload_n 0, 1) := by decide +kernel
theorem d_Cal_yearOf_5 : decode b_Cal_yearOf 5 = .ok (.iaload, 1) := by decide +kernel
theorem d_Cal_yearOf_6 : decode b_Cal_yearOf 6 = .ok (.isub, 1) := by decide +kernel
theorem d_Cal_yearOf_7 : decode b_Cal_yearOf 7 = .ok (.i2l, 1) := by decide +kernel
theorem d_Cal_yearOf_8 : decode b_Cal_yearOf 8 = .ok (.lstore_n 2, 1) := by decide +kernel
theorem d_Cal_yearOf_9 : decode b_Cal_yearOf 9 = .ok (.lload_n 2, 1) := by decide +kernel
theorem d_Cal_yearOf_10 : decode b_Cal_yearOf 10 = .ok (.getstatic 44, 3) := by decide +kernel
theorem d_Cal_yearOf_13 : decode b_Cal_yearOf 13 = .ok (.iload_n 0, 1) := by decide +kernel
theorem d_Cal_yearOf_14 : decode b_Cal_yearOf 14 = .ok (.iaload, 1) := by decide +kernel
theorem d_Cal_yearOf_15 : decode b_Cal_yearOf 15 = .ok (.i2l, 1) := by decide +kernel
theorem d_Cal_yearOf_16 : decode b_Cal_yearOf 16 = .ok (.lmul, 1) := by decide +kernel
theorem d_Cal_yearOf_17 : decode b_Cal_yearOf 17 = .ok (.getstatic 47, 3) := by decide +kernel
theorem d_Cal_yearOf_20 : decode b_Cal_yearOf 20 = .ok (.iload_n 0, 1) := by decide +kernel
theorem d_Cal_yearOf_21 : decode b_Cal_yearOf 21 = .ok (.iaload, 1) := by decide +kernel
theorem d_Cal_yearOf_22 : decode b_Cal_yearOf 22 = .ok (.i2l, 1) := by decide +kernel
theorem d_Cal_yearOf_23 : decode b_Cal_yearOf 23 = .ok (.invokestatic 50, 3) := by decide +kernel
theorem d_Cal_yearOf_26 : decode b_Cal_yearOf 26 = .ok (.l2i, 1) := by decide +kernel
theorem d_Cal_yearOf_27 : decode b_Cal_yearOf 27 = .ok (.iconst 1, 1) := by decide +kernel
theorem d_Cal_yearOf_28 : decode b_Cal_yearOf 28 = .ok (.iadd, 1) := by decide +kernel
theorem d_Cal_yearOf_29 : decode b_Cal_yearOf 29 = .ok (.istore 4, 2) := by decide +kernel
theorem d_Cal_yearOf_31 : decode b_Cal_yearOf 31 = .ok (.iload_n 0, 1) := by decide +kernel
theorem d_Cal_yearOf_32 : decode b_Cal_yearOf 32 = .ok (.iload 4, 2) := by decide +kernel
theorem d_Cal_yearOf_34 : decode b_Cal_yearOf 34 = .ok (.iconst 1, 1) := by decide +kernel
theorem d_Cal_yearOf_35 : decode b_Cal_yearOf 35 = .ok (.iadd, 1) := by decide +kernel
theorem d_Cal_yearOf_36 : decode b_Cal_yearOf 36 = .ok (.invokestatic 53, 3) := by decide +kernel
theorem d_Cal_yearOf_39 : decode b_Cal_yearOf 39 = .ok (.iload_n 1, 1) := by decide +kernel
theorem d_Cal_yearOf_40 : decode b_Cal_yearOf 40 = .ok (.if_icmp .gt 10, 3) := by decide +kernel
theorem d_Cal_yearOf_43 : decode b_Cal_yearOf 43 = .ok (.iload 4, 2) := by decide +kernel
theorem d_Cal_yearOf_45 : decode b_Cal_yearOf 45 = .ok (.iconst 1, 1) := by decide +kernel
theorem d_Cal_yearOf_46 : decode b_Cal_yearOf 46 = .ok (.iadd, 1) := by decide +kernel
theorem d_Cal_yearOf_47 : decode b_Cal_yearOf 47 = .ok (.goto 5, 3) := by decide +kernel
theorem d_Cal_yearOf_50 : decode b_Cal_yearOf 50 = .ok (.iload 4, 2) := by decide +kernel
theorem d_Cal_yearOf_52 : decode b_Cal_yearOf 52 = .ok (.ireturn, 1) := by decide +kernel
theorem d_Cal_monthOf_0 : decode b_Cal_monthOf 0 = .ok (.iload_n 2, 1) := by decide +kernel
theorem d_Cal_monthOf_1 : decode b_Cal_monthOf 1 = .ok (.iload_n 0, 1) := by decide +kernel
theorem d_Cal_monthOf_2 : decode b_Cal_monthOf 2 = .ok (.iload_n 1, 1) := by decide +kernel
theorem d_Cal_monthOf_3 : decode b_Cal_monthOf 3 = .ok (.invokestatic 53, 3) := by decide +kernel
theorem d_Cal_monthOf_6 : decode b_Cal_monthOf 6 = .ok (.isub, 1) := by decide +kernel
theorem d_Cal_monthOf_7 : decode b_Cal_monthOf 7 = .ok (.istore_n 3, 1) := by decide +kernel
theorem d_Cal_monthOf_8 : decode b_Cal_monthOf 8 = .ok (.iconst 1, 1) := by decide +kernel
theorem d_Cal_monthOf_9 : decode b_Cal_monthOf 9 = .ok (.istore 4, 2) := by decide +kernel
theorem d_Cal_monthOf_11 : decode b_Cal_monthOf 11 = .ok (.iload 4, 2) := by decide +kernel
theorem d_Cal_monthOf_13 : decode b_Cal_monthOf 13 = .ok (.iload_n 0, 1) := by decide +kernel
theorem d_Cal_monthOf_14 : decode b_Cal_monthOf 14 = .ok (.invokestatic 56, 3) := by decide +kernel
theorem d_Cal_monthOf_17 : decode b_Cal_monthOf 17 = .ok (.if_icmp .ge 30, 3) := by decide +kernel
theorem d_Cal_monthOf_20 : decode b_Cal_monthOf 20 = .ok (.iload_n 3, 1) := by decide +kernel
theorem d_Cal_monthOf_21 : decode b_Cal_monthOf 21 = .ok (.iload_n 0, 1) := by decide +kernel
theorem d_Cal_monthOf_22 : decode b_Cal_monthOf 22 = .ok (.iload_n 1, 1) := by decide +kernel
theorem d_Cal_monthOf_23 : decode b_Cal_monthOf 23 = .ok (.iload 4, 2) := by decide +kernel
theorem d_Cal_monthOf_25 : decode b_Cal_monthOf 25 = .ok (.invokestatic 30, 3) := by decide +kernel
theorem d_Cal_monthOf_28 : decode b_Cal_monthOf 28 = .ok (.if_icmp .lt 19, 3) := by decide +kernel
theorem d_Cal_monthOf_31 : decode b_Cal_monthOf 31 = .ok (.iload_n 3, 1) := by decide +kernel
theorem d_Cal_monthOf_32 : decode b_Cal_monthOf 32 = .ok (.iload_n 0, 1) := by decide +kernel
theorem d_Cal_monthOf_33 : decode b_Cal_monthOf 33 = .ok (.iload_n 1, 1) := by decide +kernel
theorem d_Cal_monthOf_34 : decode b_Cal_monthOf 34 = .ok (.iload 4, 2) := by decide +kernel
theorem d_Cal_monthOf_36 : decode b_Cal_monthOf 36 = .ok (.invokestatic 30, 3) := by decide +kernel
theorem d_Cal_monthOf_39 : decode b_Cal_monthOf 39 = .ok (.isub, 1) := by decide +kernel
theorem d_Cal_monthOf_40 : decode b_Cal_monthOf 40 = .ok (.istore_n 3, 1) := by decide +kernel
theorem d_Cal_monthOf_41 : decode b_Cal_monthOf 41 = .ok (.iinc 4 1, 3) := by decide +kernel
theorem d_Cal_monthOf_44 : decode b_Cal_monthOf 44 = .ok (.goto (-33), 3) := by decide +kernel
theorem d_Cal_monthOf_47 : decode b_Cal_monthOf 47 = .ok (.iload 4, 2) := by decide +kernel
theorem d_Cal_monthOf_49 : decode b_Cal_monthOf 49 = .ok (.ireturn, 1) := by decide +kernel
