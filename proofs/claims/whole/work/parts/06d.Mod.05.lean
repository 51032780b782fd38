theorem d_Mod_cycleDays_23 : decode b_Mod_cycleDays 23 = .ok (.goto (-19), 3) := by decide +kernel
theorem d_Mod_cycleDays_26 : decode b_Mod_cycleDays 26 = .ok (.iload_n 1, 1) := by decide +kernel
theorem d_Mod_cycleDays_27 : decode b_Mod_cycleDays 27 = .ok (.ireturn, 1) := by decide +kernel
theorem d_Mod_origin_0 : decode b_Mod_origin 0 = .ok (.iload_n 0, 1) := by decide +kernel
theorem d_Mod_origin_1 : decode b_Mod_origin 1 = .ok (.ifCond .ne 5, 3) := by decide +kernel
theorem d_Mod_origin_4 : decode b_Mod_origin 4 = .ok (.iconst 0, 1) := by decide +kernel
theorem d_Mod_origin_5 : decode b_Mod_origin 5 = .ok (.ireturn, 1) := by decide +kernel
theorem d_Mod_origin_6 : decode b_Mod_origin 6 = .ok (.iload_n 0, 1) := by decide +kernel
theorem d_Mod_origin_7 : decode b_Mod_origin 7 = .ok (.iconst 1, 1) := by decide +kernel
theorem d_Mod_origin_8 : decode b_Mod_origin 8 = .ok (.if_icmp .ne 6, 3) := by decide +kernel
theorem d_Mod_origin_11 : decode b_Mod_origin 11 = .ok (.bipush (-2), 2) := by decide +kernel
theorem d_Mod_origin_13 : decode b_Mod_origin 13 = .ok (.ireturn, 1) := by decide +kernel
theorem d_Mod_origin_14 : decode b_Mod_origin 14 = .ok (.iload_n 0, 1) := by decide +kernel
theorem d_Mod_origin_15 : decode b_Mod_origin 15 = .ok (.iconst 2, 1) := by decide +kernel
theorem d_Mod_origin_16 : decode b_Mod_origin 16 = .ok (.if_icmp .ne 17, 3) := by decide +kernel
theorem d_Mod_origin_19 : decode b_Mod_origin 19 = .ok (.iconst 1, 1) := by decide +kernel
theorem d_Mod_origin_20 : decode b_Mod_origin 20 = .ok (.sipush 622, 3) := by decide +kernel
theorem d_Mod_origin_23 : decode b_Mod_origin 23 = .ok (.invokestatic 123, 3) := by decide +kernel
theorem d_Mod_origin_26 : decode b_Mod_origin 26 = .ok (.sipush 196, 3) := by decide +kernel
theorem d_Mod_origin_29 : decode b_Mod_origin 29 = .ok (.iadd, 1) := by decide +kernel
theorem d_Mod_origin_30 : decode b_Mod_origin 30 = .ok (.goto 13, 3) := by decide +kernel
theorem d_Mod_origin_33 : decode b_Mod_origin 33 = .ok (.iconst 1, 1) := by decide +kernel
theorem d_Mod_origin_34 : decode b_Mod_origin 34 = .ok (.sipush (-746), 3) := by decide +kernel
theorem d_Mod_origin_37 : decode b_Mod_origin 37 = .ok (.invokestatic 123, 3) := by decide +kernel
theorem d_Mod_origin_40 : decode b_Mod_origin 40 = .ok (.bipush 56, 2) := by decide +kernel
theorem d_Mod_origin_42 : decode b_Mod_origin 42 = .ok (.iadd, 1) := by decide +kernel
theorem d_Mod_origin_43 : decode b_Mod_origin 43 = .ok (.ireturn, 1) := by decide +kernel
theorem d_Mod_behind_0 : decode b_Mod_behind 0 = .ok (.iconst 0, 1) := by decide +kernel
theorem d_Mod_behind_1 : decode b_Mod_behind 1 = .ok (.istore_n 2, 1) := by decide +kernel
theorem d_Mod_behind_2 : decode b_Mod_behind 2 = .ok (.iload_n 1, 1) := by decide +kernel
theorem d_Mod_behind_3 : decode b_Mod_behind 3 = .ok (.istore_n 3, 1) := by decide +kernel
theorem d_Mod_behind_4 : decode b_Mod_behind 4 = .ok (.iload_n 3, 1) := by decide +kernel
theorem d_Mod_behind_5 : decode b_Mod_behind 5 = .ok (.iconst 1, 1) := by decide +kernel
theorem d_Mod_behind_6 : decode b_Mod_behind 6 = .ok (.if_icmp .ge 16, 3) := by decide +kernel
theorem d_Mod_behind_9 : decode b_Mod_behind 9 = .ok (.iload_n 3, 1) := by decide +kernel
theorem d_Mod_behind_10 : decode b_Mod_behind 10 = .ok (.iload_n 0, 1) := by decide +kernel
theorem d_Mod_behind_11 : decode b_Mod_behind 11 = .ok (.invokestatic 116, 3) := by decide +kernel
theorem d_Mod_behind_14 : decode b_Mod_behind 14 = .ok (.iadd, 1) := by decide +kernel
theorem d_Mod_behind_15 : decode b_Mod_behind 15 = .ok (.istore_n 3, 1) := by decide +kernel
theorem d_Mod_behind_16 : decode b_Mod_behind 16 = .ok (.iinc 2 (-1), 3) := by decide +kernel
theorem d_Mod_behind_19 : decode b_Mod_behind 19 = .ok (.goto (-15), 3) := by decide +kernel
theorem d_Mod_behind_22 : decode b_Mod_behind 22 = .ok (.iload_n 3, 1) := by decide +kernel
theorem d_Mod_behind_23 : decode b_Mod_behind 23 = .ok (.iload_n 0, 1) := by decide +kernel
theorem d_Mod_behind_24 : decode b_Mod_behind 24 = .ok (.invokestatic 116, 3) := by decide +kernel
theorem d_Mod_behind_27 : decode b_Mod_behind 27 = .ok (.if_icmp .le 16, 3) := by decide +kernel
theorem d_Mod_behind_30 : decode b_Mod_behind 30 = .ok (.iload_n 3, 1) := by decide +kernel
theorem d_Mod_behind_31 : decode b_Mod_behind 31 = .ok (.iload_n 0, 1) := by decide +kernel
theorem d_Mod_behind_32 : decode b_Mod_behind 32 = .ok (.invokestatic 116, 3) := by decide +kernel
theorem d_Mod_behind_35 : decode b_Mod_behind 35 = .ok (.isub, 1) := by decide +kernel
theorem d_Mod_behind_36 : decode b_Mod_behind 36 = .ok (.istore_n 3, 1) := by decide +kernel
theorem d_Mod_behind_37 : decode b_Mod_behind 37 = .ok (.iinc 2 1, 3) := by decide +kernel
theorem d_Mod_behind_40 : decode b_Mod_behind 40 = .ok (.goto (-18), 3) := by decide +kernel
theorem d_Mod_behind_43 : decode b_Mod_behind 43 = .ok (.iload_n 2, 1) := by decide +kernel
theorem d_Mod_behind_44 : decode b_Mod_behind 44 = .ok (.iload_n 0, 1) := by decide +kernel
theorem d_Mod_behind_45 : decode b_Mod_behind 45 = .ok (.invokestatic 126, 3) := by decide +kernel
theorem d_Mod_behind_48 : decode b_Mod_behind 48 = .ok (.imul, 1) := by decide +kernel
theorem d_Mod_behind_49 : decode b_Mod_behind 49 = .ok (.istore 4, 2) := by decide +kernel
theorem d_Mod_behind_51 : decode b_Mod_behind 51 = .ok (.iconst 1, 1) := by decide +kernel
theorem d_Mod_behind_52 : decode b_Mod_behind 52 = .ok (.istore 5, 2) := by decide +kernel
theorem d_Mod_behind_54 : decode b_Mod_behind 54 = .ok (.iload 5, 2) := by decide +kernel
theorem d_Mod_behind_56 : decode b_Mod_behind 56 = .ok (.iload_n 3, 1) := by decide +kernel
theorem d_Mod_behind_57 : decode b_Mod_behind 57 = .ok (.if_icmp .ge 20, 3) := by decide +kernel
theorem d_Mod_behind_60 : decode b_Mod_behind 60 = .ok (.iload 4, 2) := by decide +kernel
theorem d_Mod_behind_62 : decode b_Mod_behind 62 = .ok (.iload_n 0, 1) := by decide +kernel
theorem d_Mod_behind_63 : decode b_Mod_behind 63 = .ok (.iload 5, 2) := by decide +kernel
theorem d_Mod_behind_65 : decode b_Mod_behind 65 = .ok (.invokestatic 120, 3) := by decide +kernel
theorem d_Mod_behind_68 : decode b_Mod_behind 68 = .ok (.iadd, 1) := by decide +kernel
theorem d_Mod_behind_69 : decode b_Mod_behind 69 = .ok (.istore 4, 2) := by decide +kernel
theorem d_Mod_behind_71 : decode b_Mod_behind 71 = .ok (.iinc 5 1, 3) := by decide +kernel
theorem d_Mod_behind_74 : decode b_Mod_behind 74 = .ok (.goto (-20), 3) := by decide +kernel
theorem d_Mod_behind_77 : decode b_Mod_behind 77 = .ok (.iload 4, 2) := by decide +kernel
theorem d_Mod_behind_79 : decode b_Mod_behind 79 = .ok (.ireturn, 1) := by decide +kernel
theorem d_Mod_firstOf_0 : decode b_Mod_firstOf 0 = .ok (.iload_n 0, 1) := by decide +kernel
theorem d_Mod_firstOf_1 : decode b_Mod_firstOf 1 = .ok (.iconst 1, 1) := by decide +kernel
theorem d_Mod_firstOf_2 : decode b_Mod_firstOf 2 = .ok (.if_icmp .ne 13, 3) := by decide +kernel
theorem d_Mod_firstOf_5 : decode b_Mod_firstOf 5 = .ok (.iconst 1, 1) := by decide +kernel
theorem d_Mod_firstOf_6 : decode b_Mod_firstOf 6 = .ok (.iload_n 1, 1) := by decide +kernel
theorem d_Mod_firstOf_7 : decode b_Mod_firstOf 7 = .ok (.invokestatic 129, 3) := by decide +kernel
theorem d_Mod_firstOf_10 : decode b_Mod_firstOf 10 = .ok (.iconst 2, 1) := by decide +kernel
theorem d_Mod_firstOf_11 : decode b_Mod_firstOf 11 = .ok (.isub, 1) := by decide +kernel
theorem d_Mod_firstOf_12 : decode b_Mod_firstOf 12 = .ok (.goto 8, 3) := by decide +kernel
theorem d_Mod_firstOf_15 : decode b_Mod_firstOf 15 = .ok (.iconst 0, 1) := by decide +kernel
theorem d_Mod_firstOf_16 : decode b_Mod_firstOf 16 = .ok (.iload_n 1, 1) := by decide +kernel
theorem d_Mod_firstOf_17 : decode b_Mod_firstOf 17 = .ok (.invokestatic 129, 3) := by decide +kernel
theorem d_Mod_firstOf_20 : decode b_Mod_firstOf 20 = .ok (.ireturn, 1) := by decide +kernel
theorem d_Mod_day_0 : decode b_Mod_day 0 = .ok (.iload_n 1, 1) := by decide +kernel
theorem d_Mod_day_1 : decode b_Mod_day 1 = .ok (.iconst 0, 1) := by decide +kernel
theorem d_Mod_day_2 : decode b_Mod_day 2 = .ok (.iconst 3, 1) := by decide +kernel
theorem d_Mod_day_3 : decode b_Mod_day 3 = .ok (.invokestatic 46, 3) := by decide +kernel
theorem d_Mod_day_6 : decode b_Mod_day 6 = .ok (.istore 5, 2) := by decide +kernel
theorem d_Mod_day_8 : decode b_Mod_day 8 = .ok (.iload 5, 2) := by decide +kernel
theorem d_Mod_day_10 : decode b_Mod_day 10 = .ok (.ifCond .eq 50, 3) := by decide +kernel
theorem d_Mod_day_13 : decode b_Mod_day 13 = .ok (.iload_n 2, 1) := by decide +kernel
theorem d_Mod_day_14 : decode b_Mod_day 14 = .ok (.sipush (-9999), 3) := by decide +kernel
theorem d_Mod_day_17 : decode b_Mod_day 17 = .ok (.sipush 9999, 3) := by decide +kernel
theorem d_Mod_day_20 : decode b_Mod_day 20 = .ok (.invokestatic 46, 3) := by decide +kernel
theorem d_Mod_day_23 : decode b_Mod_day 23 = .ok (.ifCond .eq 37, 3) := by decide +kernel
theorem d_Mod_day_26 : decode b_Mod_day 26 = .ok (.iload_n 3, 1) := by decide +kernel
theorem d_Mod_day_27 : decode b_Mod_day 27 = .ok (.iconst 1, 1) := by decide +kernel
theorem d_Mod_day_28 : decode b_Mod_day 28 = .ok (.if_icmp .lt 32, 3) := by decide +kernel
theorem d_Mod_day_31 : decode b_Mod_day 31 = .ok (.iload_n 3, 1) := by decide +kernel
theorem d_Mod_day_32 : decode b_Mod_day 32 = .ok (.iload_n 1, 1) := by decide +kernel
theorem d_Mod_day_33 : decode b_Mod_day 33 = .ok (.invokestatic 132, 3) := by decide +kernel
theorem d_Mod_day_36 : decode b_Mod_day 36 = .ok (.if_icmp .gt 24, 3) := by decide +kernel
theorem d_Mod_day_39 : decode b_Mod_day 39 = .ok (.iload 4, 2) := by decide +kernel
theorem d_Mod_day_41 : decode b_Mod_day 41 = .ok (.iconst 1, 1) := by decide +kernel
theorem d_Mod_day_42 : decode b_Mod_day 42 = .ok (.if_icmp .lt 18, 3) := by decide +kernel
theorem d_Mod_day_45 : decode b_Mod_day 45 = .ok (.iload 4, 2) := by decide +kernel
theorem d_Mod_day_47 : decode b_Mod_day 47 = .ok (.iload_n 1, 1) := by decide +kernel
theorem d_Mod_day_48 : decode b_Mod_day 48 = .ok (.iload_n 2, 1) := by decide +kernel
theorem d_Mod_day_49 : decode b_Mod_day 49 = .ok (.iload_n 3, 1) := by decide +kernel
theorem d_Mod_day_50 : decode b_Mod_day 50 = .ok (.invokestatic 135, 3) := by decide +kernel
theorem d_Mod_day_53 : decode b_Mod_day 53 = .ok (.if_icmp .gt 7, 3) := by decide +kernel
theorem d_Mod_day_56 : decode b_Mod_day 56 = .ok (.iconst 1, 1) := by decide +kernel
theorem d_Mod_day_57 : decode b_Mod_day 57 = .ok (.goto 4, 3) := by decide +kernel
theorem d_Mod_day_60 : decode b_Mod_day 60 = .ok (.iconst 0, 1) := by decide +kernel
theorem d_Mod_day_61 : decode b_Mod_day 61 = .ok (.istore 6, 2) := by decide +kernel
theorem d_Mod_day_63 : decode b_Mod_day 63 = .ok (.aload_n 0, 1) := by decide +kernel
theorem d_Mod_day_64 : decode b_Mod_day 64 = .ok (.iload 5, 2) := by decide +kernel
theorem d_Mod_day_66 : decode b_Mod_day 66 = .ok (.iload 6, 2) := by decide +kernel
theorem d_Mod_day_68 : decode b_Mod_day 68 = .ok (.iconst 1, 1) := by decide +kernel
theorem d_Mod_day_69 : decode b_Mod_day 69 = .ok (.iconst 1, 1) := by decide +kernel
theorem d_Mod_day_70 : decode b_Mod_day 70 = .ok (.invokevirtual 50, 3) := by decide +kernel
theorem d_Mod_day_73 : decode b_Mod_day 73 = .ok (.ifCond .ne 5, 3) := by decide +kernel
theorem d_Mod_day_76 : decode b_Mod_day 76 = .ok (.iconst 0, 1) := by decide +kernel
theorem d_Mod_day_77 : decode b_Mod_day 77 = .ok (.ireturn, 1) := by decide +kernel
theorem d_Mod_day_78 : decode b_Mod_day 78 = .ok (.iload_n 1, 1) := by decide +kernel
theorem d_Mod_day_79 : decode b_Mod_day 79 = .ok (.invokestatic 139, 3) := by decide +kernel
theorem d_Mod_day_82 : decode b_Mod_day 82 = .ok (.iload_n 1, 1) := by decide +kernel
theorem d_Mod_day_83 : decode b_Mod_day 83 = .ok (.iload_n 2, 1) := by decide +kernel
theorem d_Mod_day_84 : decode b_Mod_day 84 = .ok (.invokestatic 129, 3) := by decide +kernel
theorem d_Mod_day_87 : decode b_Mod_day 87 = .ok (.iadd, 1) := by decide +kernel
theorem d_Mod_day_88 : decode b_Mod_day 88 = .ok (.iload 4, 2) := by decide +kernel
theorem d_Mod_day_90 : decode b_Mod_day 90 = .ok (.iadd, 1) := by decide +kernel
theorem d_Mod_day_91 : decode b_Mod_day 91 = .ok (.iconst 1, 1) := by decide +kernel
theorem d_Mod_day_92 : decode b_Mod_day 92 = .ok (.isub, 1) := by decide +kernel
theorem d_Mod_day_93 : decode b_Mod_day 93 = .ok (.istore 7, 2) := by decide +kernel
theorem d_Mod_day_95 : decode b_Mod_day 95 = .ok (.iconst 1, 1) := by decide +kernel
theorem d_Mod_day_96 : decode b_Mod_day 96 = .ok (.istore 8, 2) := by decide +kernel
theorem d_Mod_day_98 : decode b_Mod_day 98 = .ok (.iload 8, 2) := by decide +kernel
theorem d_Mod_day_100 : decode b_Mod_day 100 = .ok (.iload_n 3, 1) := by decide +kernel
theorem d_Mod_day_101 : decode b_Mod_day 101 = .ok (.if_icmp .ge 21, 3) := by decide +kernel
theorem d_Mod_day_104 : decode b_Mod_day 104 = .ok (.iload 7, 2) := by decide +kernel
theorem d_Mod_day_106 : decode b_Mod_day 106 = .ok (.iload_n 1, 1) := by decide +kernel
theorem d_Mod_day_107 : decode b_Mod_day 107 = .ok (.iload_n 2, 1) := by decide +kernel
theorem d_Mod_day_108 : decode b_Mod_day 108 = .ok (.iload 8, 2) := by decide +kernel
theorem d_Mod_day_110 : decode b_Mod_day 110 = .ok (.invokestatic 135, 3) := by decide +kernel
theorem d_Mod_day_113 : decode b_Mod_day 113 = .ok (.iadd, 1) := by decide +kernel
theorem d_Mod_day_114 : decode b_Mod_day 114 = .ok (.istore 7, 2) := by decide +kernel
theorem d_Mod_day_116 : decode b_Mod_day 116 = .ok (.iinc 8 1, 3) := by decide +kernel
theorem d_Mod_day_119 : decode b_Mod_day 119 = .ok (.goto (-21), 3) := by decide +kernel
theorem d_Mod_day_122 : decode b_Mod_day 122 = .ok (.iload 7, 2) := by decide +kernel
theorem d_Mod_day_124 : decode b_Mod_day 124 = .ok (.ireturn, 1) := by decide +kernel
theorem d_Mod_date_0 : decode b_Mod_date 0 = .ok (.aload_n 0, 1) := by decide +kernel
theorem d_Mod_date_1 : decode b_Mod_date 1 = .ok (.iload_n 1, 1) := by decide +kernel
theorem d_Mod_date_2 : decode b_Mod_date 2 = .ok (.iconst 0, 1) := by decide +kernel
theorem d_Mod_date_3 : decode b_Mod_date 3 = .ok (.iconst 3, 1) := by decide +kernel
theorem d_Mod_date_4 : decode b_Mod_date 4 = .ok (.invokestatic 46, 3) := by decide +kernel
theorem d_Mod_date_7 : decode b_Mod_date 7 = .ok (.iload_n 3, 1) := by decide +kernel
theorem d_Mod_date_8 : decode b_Mod_date 8 = .ok (.iconst 0, 1) := by decide +kernel
theorem d_Mod_date_9 : decode b_Mod_date 9 = .ok (.iconst 2, 1) := by decide +kernel
theorem d_Mod_date_10 : decode b_Mod_date 10 = .ok (.invokestatic 46, 3) := by decide +kernel
theorem d_Mod_date_13 : decode b_Mod_date 13 = .ok (.ifCond .eq 18, 3) := by decide +kernel
theorem d_Mod_date_16 : decode b_Mod_date 16 = .ok (.iload_n 2, 1) := by decide +kernel
theorem d_Mod_date_17 : decode b_Mod_date 17 = .ok (.ldc 142, 2) := by decide +kernel
theorem d_Mod_date_19 : decode b_Mod_date 19 = .ok (.ldc 143, 2) := by decide +kernel
theorem d_Mod_date_21 : decode b_Mod_date 21 = .ok (.invokestatic 46, 3) := by decide +kernel
theorem d_Mod_date_24 : decode b_Mod_date 24 = .ok (.ifCond .eq 7, 3) := by decide +kernel
theorem d_Mod_date_27 : decode b_Mod_date 27 = .ok (.iconst 1, 1) := by decide +kernel
theorem d_Mod_date_28 : decode b_Mod_date 28 = .ok (.goto 4, 3) := by decide +kernel
theorem d_Mod_date_31 : decode b_Mod_date 31 = .ok (.iconst 0, 1) := by decide +kernel
theorem d_Mod_date_32 : decode b_Mod_date 32 = .ok (.iconst 1, 1) := by decide +kernel
theorem d_Mod_date_33 : decode b_Mod_date 33 = .ok (.iconst 1, 1) := by decide +kernel
theorem d_Mod_date_34 : decode b_Mod_date 34 = .ok (.invokevirtual 50, 3) := by decide +kernel
theorem d_Mod_date_37 : decode b_Mod_date 37 = .ok (.ifCond .ne 5, 3) := by decide +kernel
theorem d_Mod_date_40 : decode b_Mod_date 40 = .ok (.iconst 0, 1) := by decide +kernel
theorem d_Mod_date_41 : decode b_Mod_date 41 = .ok (.ireturn, 1) := by decide +kernel
theorem d_Mod_date_42 : decode b_Mod_date 42 = .ok (.iload_n 2, 1) := by decide +kernel
theorem d_Mod_date_43 : decode b_Mod_date 43 = .ok (.iload_n 1, 1) := by decide +kernel
theorem d_Mod_date_44 : decode b_Mod_date 44 = .ok (.invokestatic 139, 3) := by decide +kernel
theorem d_Mod_date_47 : decode b_Mod_date 47 = .ok (.isub, 1) := by decide +kernel
theorem d_Mod_date_48 : decode b_Mod_date 48 = .ok (.istore 4, 2) := by decide +kernel
theorem d_Mod_date_50 : decode b_Mod_date 50 = .ok (.iconst 1, 1) := by decide +kernel
theorem d_Mod_date_51 : decode b_Mod_date 51 = .ok (.istore 5, 2) := by decide +kernel
theorem d_Mod_date_53 : decode b_Mod_date 53 = .ok (.iload_n 1, 1) := by decide +kernel
theorem d_Mod_date_54 : decode b_Mod_date 54 = .ok (.invokestatic 126, 3) := by decide +kernel
theorem d_Mod_date_57 : decode b_Mod_date 57 = .ok (.istore 6, 2) := by decide +kernel
theorem d_Mod_date_59 : decode b_Mod_date 59 = .ok (.iload 4, 2) := by decide +kernel
theorem d_Mod_date_61 : decode b_Mod_date 61 = .ok (.ifCond .ge 22, 3) := by decide +kernel
theorem d_Mod_date_64 : decode b_Mod_date 64 = .ok (.iload 4, 2) := by decide +kernel
theorem d_Mod_date_66 : decode b_Mod_date 66 = .ok (.iload 6, 2) := by decide +kernel
theorem d_Mod_date_68 : decode b_Mod_date 68 = .ok (.iadd, 1) := by decide +kernel
theorem d_Mod_date_69 : decode b_Mod_date 69 = .ok (.istore 4, 2) := by decide +kernel
theorem d_Mod_date_71 : decode b_Mod_date 71 = .ok (.iload 5, 2) := by decide +kernel
theorem d_Mod_date_73 : decode b_Mod_date 73 = .ok (.iload_n 1, 1) := by decide +kernel
theorem d_Mod_date_74 : decode b_Mod_date 74 = .ok (.invokestatic 116, 3) := by decide +kernel
theorem d_Mod_date_77 : decode b_Mod_date 77 = .ok (.isub, 1) := by decide +kernel
theorem d_Mod_date_78 : decode b_Mod_date 78 = .ok (.istore 5, 2) := by decide +kernel
theorem d_Mod_date_80 : decode b_Mod_date 80 = .ok (.goto (-21), 3) := by decide +kernel
theorem d_Mod_date_83 : decode b_Mod_date 83 = .ok (.iload 4, 2) := by decide +kernel
theorem d_Mod_date_85 : decode b_Mod_date 85 = .ok (.iload 6, 2) := by decide +kernel
theorem d_Mod_date_87 : decode b_Mod_date 87 = .ok (.if_icmp .lt 22, 3) := by decide +kernel
theorem d_Mod_date_90 : decode b_Mod_date 90 = .ok (.iload 4, 2) := by decide +kernel
theorem d_Mod_date_92 : decode b_Mod_date 92 = .ok (.iload 6, 2) := by decide +kernel
theorem d_Mod_date_94 : decode b_Mod_date 94 = .ok (.isub, 1) := by decide +kernel
theorem d_Mod_date_95 : decode b_Mod_date 95 = .ok (.istore 4, 2) := by decide +kernel
theorem d_Mod_date_97 : decode b_Mod_date 97 = .ok (.iload 5, 2) := by decide +kernel
theorem d_Mod_date_99 : decode b_Mod_date 99 = .ok (.iload_n 1, 1) := by decide +kernel
theorem d_Mod_date_100 : decode b_Mod_date 100 = .ok (.invokestatic 116, 3) := by decide +kernel
theorem d_Mod_date_103 : decode b_Mod_date 103 = .ok (.iadd, 1) := by decide +kernel
theorem d_Mod_date_104 : decode b_Mod_date 104 = .ok (.istore 5, 2) := by decide +kernel
theorem d_Mod_date_106 : decode b_Mod_date 106 = .ok (.goto (-23), 3) := by decide +kernel
theorem d_Mod_date_109 : decode b_Mod_date 109 = .ok (.iload 4, 2) := by decide +kernel
theorem d_Mod_date_111 : decode b_Mod_date 111 = .ok (.iload_n 1, 1) := by decide +kernel
theorem d_Mod_date_112 : decode b_Mod_date 112 = .ok (.iload 5, 2) := by decide +kernel
theorem d_Mod_date_114 : decode b_Mod_date 114 = .ok (.invokestatic 120, 3) := by decide +kernel
theorem d_Mod_date_117 : decode b_Mod_date 117 = .ok (.if_icmp .lt 20, 3) := by decide +kernel
theorem d_Mod_date_120 : decode b_Mod_date 120 = .ok (.iload 4, 2) := by decide +kernel
theorem d_Mod_date_122 : decode b_Mod_date 122 = .ok (.iload_n 1, 1) := by decide +kernel
theorem d_Mod_date_123 : decode b_Mod_date 123 = .ok (.iload 5, 2) := by decide +kernel
theorem d_Mod_date_125 : decode b_Mod_date 125 = .ok (.invokestatic 120, 3) := by decide +kernel
theorem d_Mod_date_128 : decode b_Mod_date 128 = .ok (.isub, 1) := by decide +kernel
theorem d_Mod_date_129 : decode b_Mod_date 129 = .ok (.istore 4, 2) := by decide +kernel
theorem d_Mod_date_131 : decode b_Mod_date 131 = .ok (.iinc 5 1, 3) := by decide +kernel
theorem d_Mod_date_134 : decode b_Mod_date 134 = .ok (.goto (-25), 3) := by decide +kernel
theorem d_Mod_date_137 : decode b_Mod_date 137 = .ok (.iconst 1, 1) := by decide +kernel
theorem d_Mod_date_138 : decode b_Mod_date 138 = .ok (.istore 7, 2) := by decide +kernel
theorem d_Mod_date_140 : decode b_Mod_date 140 = .ok (.iload 4, 2) := by decide +kernel
theorem d_Mod_date_142 : decode b_Mod_date 142 = .ok (.iload_n 1, 1) := by decide +kernel
theorem d_Mod_date_143 : decode b_Mod_date 143 = .ok (.iload 5, 2) := by decide +kernel
theorem d_Mod_date_145 : decode b_Mod_date 145 = .ok (.iload 7, 2) := by decide +kernel
theorem d_Mod_date_147 : decode b_Mod_date 147 = .ok (.invokestatic 135, 3) := by decide +kernel
theorem d_Mod_date_150 : decode b_Mod_date 150 = .ok (.if_icmp .lt 22, 3) := by decide +kernel
theorem d_Mod_date_153 : decode b_Mod_date 153 = .ok (.iload 4, 2) := by decide +kernel
theorem d_Mod_date_155 : decode b_Mod_date 155 = .ok (.iload_n 1, 1) := by decide +kernel
theorem d_Mod_date_156 : decode b_Mod_date 156 = .ok (.iload 5, 2) := by decide +kernel
theorem d_Mod_date_158 : decode b_Mod_date 158 = .ok (.iload 7, 2) := by decide +kernel
theorem d_Mod_date_160 : decode b_Mod_date 160 = .ok (.invokestatic 135, 3) := by decide +kernel
theorem d_Mod_date_163 : decode b_Mod_date 163 = .ok (.isub, 1) := by decide +kernel
theorem d_Mod_date_164 : decode b_Mod_date 164 = .ok (.istore 4, 2) := by decide +kernel
theorem d_Mod_date_166 : decode b_Mod_date 166 = .ok (.iinc 7 1, 3) := by decide +kernel
theorem d_Mod_date_169 : decode b_Mod_date 169 = .ok (.goto (-29), 3) := by decide +kernel
theorem d_Mod_date_172 : decode b_Mod_date 172 = .ok (.iload_n 3, 1) := by decide +kernel
theorem d_Mod_date_173 : decode b_Mod_date 173 = .ok (.ifCond .ne 8, 3) := by decide +kernel
theorem d_Mod_date_176 : decode b_Mod_date 176 = .ok (.iload 5, 2) := by decide +kernel
theorem d_Mod_date_178 : decode b_Mod_date 178 = .ok (.goto 17, 3) := by decide +kernel
theorem d_Mod_date_181 : decode b_Mod_date 181 = .ok (.iload_n 3, 1) := by decide +kernel
theorem d_Mod_date_182 : decode b_Mod_date 182 = .ok (.iconst 1, 1) := by decide +kernel
theorem d_Mod_date_183 : decode b_Mod_date 183 = .ok (.if_icmp .ne 8, 3) := by decide +kernel
theorem d_Mod_date_186 : decode b_Mod_date 186 = .ok (.iload 7, 2) := by decide +kernel
theorem d_Mod_date_188 : decode b_Mod_date 188 = .ok (.goto 7, 3) := by decide +kernel
theorem d_Mod_date_191 : decode b_Mod_date 191 = .ok (.iload 4, 2) := by decide +kernel
theorem d_Mod_date_193 : decode b_Mod_date 193 = .ok (.iconst 1, 1) := by decide +kernel
theorem d_Mod_date_194 : decode b_Mod_date 194 = .ok (.iadd, 1) := by decide +kernel
theorem d_Mod_date_195 : decode b_Mod_date 195 = .ok (.ireturn, 1) := by decide +kernel
theorem d_Mod_clear_0 : decode b_Mod_clear 0 = .ok (.aload_n 0, 1) := by decide +kernel
theorem d_Mod_clear_1 : decode b_Mod_clear 1 = .ok (.iconst 0, 1) := by decide +kernel
theorem d_Mod_clear_2 : decode b_Mod_clear 2 = .ok (.putfield 35, 3) := by decide +kernel
theorem d_Mod_clear_5 : decode b_Mod_clear 5 = .ok (.aload_n 0, 1) := by decide +kernel
theorem d_Mod_clear_6 : decode b_Mod_clear 6 = .ok (.getfield 39, 3) := by decide +kernel
theorem d_Mod_clear_9 : decode b_Mod_clear 9 = .ok (.istore_n 1, 1) := by decide +kernel
theorem d_Mod_clear_10 : decode b_Mod_clear 10 = .ok (.aload_n 0, 1) := by decide +kernel
theorem d_Mod_clear_11 : decode b_Mod_clear 11 = .ok (.iconst 0, 1) := by decide +kernel
theorem d_Mod_clear_12 : decode b_Mod_clear 12 = .ok (.putfield 39, 3) := by decide +kernel
theorem d_Mod_clear_15 : decode b_Mod_clear 15 = .ok (.aload_n 0, 1) := by decide +kernel
theorem d_Mod_clear_16 : decode b_Mod_clear 16 = .ok (.iconst 0, 1) := by decide +kernel
theorem d_Mod_clear_17 : decode b_Mod_clear 17 = .ok (.putfield 107, 3) := by decide +kernel
theorem d_Mod_clear_20 : decode b_Mod_clear 20 = .ok (.aload_n 0, 1) := by decide +kernel
theorem d_Mod_clear_21 : decode b_Mod_clear 21 = .ok (.lconst 0, 1) := by decide +kernel
theorem d_Mod_clear_22 : decode b_Mod_clear 22 = .ok (.putfield 85, 3) := by decide +kernel
theorem d_Mod_clear_25 : decode b_Mod_clear 25 = .ok (.iload_n 1, 1) := by decide +kernel
theorem d_Mod_clear_26 : decode b_Mod_clear 26 = .ok (.ireturn, 1) := by decide +kernel
