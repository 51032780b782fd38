theorem d_Mod_init_0 : decode b_Mod_init 0 = .ok (.aload_n 0, 1) := by decide +kernel
theorem d_Mod_init_1 : decode b_Mod_init 1 = .ok (.invokespecial 1, 3) := by decide +kernel
theorem d_Mod_init_4 : decode b_Mod_init 4 = .ok (.aload_n 0, 1) := by decide +kernel
theorem d_Mod_init_5 : decode b_Mod_init 5 = .ok (.bipush 8, 2) := by decide +kernel
theorem d_Mod_init_7 : decode b_Mod_init 7 = .ok (.newarray .int, 2) := by decide +kernel
theorem d_Mod_init_9 : decode b_Mod_init 9 = .ok (.putfield 7, 3) := by decide +kernel
theorem d_Mod_init_12 : decode b_Mod_init 12 = .ok (.aload_n 0, 1) := by decide +kernel
theorem d_Mod_init_13 : decode b_Mod_init 13 = .ok (.bipush 8, 2) := by decide +kernel
theorem d_Mod_init_15 : decode b_Mod_init 15 = .ok (.newarray .int, 2) := by decide +kernel
theorem d_Mod_init_17 : decode b_Mod_init 17 = .ok (.putfield 13, 3) := by decide +kernel
theorem d_Mod_init_20 : decode b_Mod_init 20 = .ok (.aload_n 0, 1) := by decide +kernel
theorem d_Mod_init_21 : decode b_Mod_init 21 = .ok (.sipush 13824, 3) := by decide +kernel
theorem d_Mod_init_24 : decode b_Mod_init 24 = .ok (.newarray .int, 2) := by decide +kernel
theorem d_Mod_init_26 : decode b_Mod_init 26 = .ok (.putfield 16, 3) := by decide +kernel
theorem d_Mod_init_29 : decode b_Mod_init 29 = .ok (.aload_n 0, 1) := by decide +kernel
theorem d_Mod_init_30 : decode b_Mod_init 30 = .ok (.bipush 48, 2) := by decide +kernel
theorem d_Mod_init_32 : decode b_Mod_init 32 = .ok (.newarray .int, 2) := by decide +kernel
theorem d_Mod_init_34 : decode b_Mod_init 34 = .ok (.putfield 19, 3) := by decide +kernel
theorem d_Mod_init_37 : decode b_Mod_init 37 = .ok (.aload_n 0, 1) := by decide +kernel
theorem d_Mod_init_38 : decode b_Mod_init 38 = .ok (.bipush 48, 2) := by decide +kernel
theorem d_Mod_init_40 : decode b_Mod_init 40 = .ok (.newarray .int, 2) := by decide +kernel
theorem d_Mod_init_42 : decode b_Mod_init 42 = .ok (.putfield 22, 3) := by decide +kernel
theorem d_Mod_init_45 : decode b_Mod_init 45 = .ok (.aload_n 0, 1) := by decide +kernel
theorem d_Mod_init_46 : decode b_Mod_init 46 = .ok (.bipush 80, 2) := by decide +kernel
theorem d_Mod_init_48 : decode b_Mod_init 48 = .ok (.newarray .int, 2) := by decide +kernel
theorem d_Mod_init_50 : decode b_Mod_init 50 = .ok (.putfield 25, 3) := by decide +kernel
theorem d_Mod_init_53 : decode b_Mod_init 53 = .ok (.aload_n 0, 1) := by decide +kernel
theorem d_Mod_init_54 : decode b_Mod_init 54 = .ok (.bipush 80, 2) := by decide +kernel
theorem d_Mod_init_56 : decode b_Mod_init 56 = .ok (.newarray .int, 2) := by decide +kernel
theorem d_Mod_init_58 : decode b_Mod_init 58 = .ok (.putfield 28, 3) := by decide +kernel
theorem d_Mod_init_61 : decode b_Mod_init 61 = .ok (.aload_n 0, 1) := by decide +kernel
theorem d_Mod_init_62 : decode b_Mod_init 62 = .ok (.bipush 48, 2) := by decide +kernel
theorem d_Mod_init_64 : decode b_Mod_init 64 = .ok (.newarray .boolean, 2) := by decide +kernel
theorem d_Mod_init_66 : decode b_Mod_init 66 = .ok (.putfield 31, 3) := by decide +kernel
theorem d_Mod_init_69 : decode b_Mod_init 69 = .ok (.return_, 1) := by decide +kernel
theorem d_Mod_thrown_0 : decode b_Mod_thrown 0 = .ok (.aload_n 0, 1) := by decide +kernel
theorem d_Mod_thrown_1 : decode b_Mod_thrown 1 = .ok (.getfield 35, 3) := by decide +kernel
theorem d_Mod_thrown_4 : decode b_Mod_thrown 4 = .ok (.ireturn, 1) := by decide +kernel
theorem d_Mod_goes_0 : decode b_Mod_goes 0 = .ok (.aload_n 0, 1) := by decide +kernel
theorem d_Mod_goes_1 : decode b_Mod_goes 1 = .ok (.iload_n 1, 1) := by decide +kernel
theorem d_Mod_goes_2 : decode b_Mod_goes 2 = .ok (.ifCond .ne 7, 3) := by decide +kernel
theorem d_Mod_goes_5 : decode b_Mod_goes 5 = .ok (.iconst 1, 1) := by decide +kernel
theorem d_Mod_goes_6 : decode b_Mod_goes 6 = .ok (.goto 29, 3) := by decide +kernel
theorem d_Mod_goes_9 : decode b_Mod_goes 9 = .ok (.iload_n 2, 1) := by decide +kernel
theorem d_Mod_goes_10 : decode b_Mod_goes 10 = .ok (.ifCond .ne 7, 3) := by decide +kernel
theorem d_Mod_goes_13 : decode b_Mod_goes 13 = .ok (.iconst 2, 1) := by decide +kernel
theorem d_Mod_goes_14 : decode b_Mod_goes 14 = .ok (.goto 21, 3) := by decide +kernel
theorem d_Mod_goes_17 : decode b_Mod_goes 17 = .ok (.iload_n 3, 1) := by decide +kernel
theorem d_Mod_goes_18 : decode b_Mod_goes 18 = .ok (.ifCond .ne 7, 3) := by decide +kernel
theorem d_Mod_goes_21 : decode b_Mod_goes 21 = .ok (.iconst 3, 1) := by decide +kernel
theorem d_Mod_goes_22 : decode b_Mod_goes 22 = .ok (.goto 13, 3) := by decide +kernel
theorem d_Mod_goes_25 : decode b_Mod_goes 25 = .ok (.iload 4, 2) := by decide +kernel
theorem d_Mod_goes_27 : decode b_Mod_goes 27 = .ok (.ifCond .ne 7, 3) := by decide +kernel
theorem d_Mod_goes_30 : decode b_Mod_goes 30 = .ok (.iconst 4, 1) := by decide +kernel
theorem d_Mod_goes_31 : decode b_Mod_goes 31 = .ok (.goto 4, 3) := by decide +kernel
theorem d_Mod_goes_34 : decode b_Mod_goes 34 = .ok (.iconst 0, 1) := by decide +kernel
theorem d_Mod_goes_35 : decode b_Mod_goes 35 = .ok (.putfield 35, 3) := by decide +kernel
theorem d_Mod_goes_38 : decode b_Mod_goes 38 = .ok (.aload_n 0, 1) := by decide +kernel
theorem d_Mod_goes_39 : decode b_Mod_goes 39 = .ok (.getfield 35, 3) := by decide +kernel
theorem d_Mod_goes_42 : decode b_Mod_goes 42 = .ok (.ifCond .ne 7, 3) := by decide +kernel
theorem d_Mod_goes_45 : decode b_Mod_goes 45 = .ok (.iconst 1, 1) := by decide +kernel
theorem d_Mod_goes_46 : decode b_Mod_goes 46 = .ok (.goto 4, 3) := by decide +kernel
theorem d_Mod_goes_49 : decode b_Mod_goes 49 = .ok (.iconst 0, 1) := by decide +kernel
theorem d_Mod_goes_50 : decode b_Mod_goes 50 = .ok (.ireturn, 1) := by decide +kernel
theorem d_Mod_within_0 : decode b_Mod_within 0 = .ok (.iload_n 0, 1) := by decide +kernel
theorem d_Mod_within_1 : decode b_Mod_within 1 = .ok (.iload_n 1, 1) := by decide +kernel
theorem d_Mod_within_2 : decode b_Mod_within 2 = .ok (.if_icmp .lt 12, 3) := by decide +kernel
theorem d_Mod_within_5 : decode b_Mod_within 5 = .ok (.iload_n 0, 1) := by decide +kernel
theorem d_Mod_within_6 : decode b_Mod_within 6 = .ok (.iload_n 2, 1) := by decide +kernel
theorem d_Mod_within_7 : decode b_Mod_within 7 = .ok (.if_icmp .gt 7, 3) := by decide +kernel
theorem d_Mod_within_10 : decode b_Mod_within 10 = .ok (.iconst 1, 1) := by decide +kernel
theorem d_Mod_within_11 : decode b_Mod_within 11 = .ok (.goto 4, 3) := by decide +kernel
theorem d_Mod_within_14 : decode b_Mod_within 14 = .ok (.iconst 0, 1) := by decide +kernel
theorem d_Mod_within_15 : decode b_Mod_within 15 = .ok (.ireturn, 1) := by decide +kernel
theorem d_Mod_isRow_0 : decode b_Mod_isRow 0 = .ok (.iload_n 1, 1) := by decide +kernel
theorem d_Mod_isRow_1 : decode b_Mod_isRow 1 = .ok (.ifCond .lt 15, 3) := by decide +kernel
theorem d_Mod_isRow_4 : decode b_Mod_isRow 4 = .ok (.iload_n 1, 1) := by decide +kernel
theorem d_Mod_isRow_5 : decode b_Mod_isRow 5 = .ok (.aload_n 0, 1) := by decide +kernel
theorem d_Mod_isRow_6 : decode b_Mod_isRow 6 = .ok (.getfield 39, 3) := by decide +kernel
theorem d_Mod_isRow_9 : decode b_Mod_isRow 9 = .ok (.if_icmp .ge 7, 3) := by decide +kernel
theorem d_Mod_isRow_12 : decode b_Mod_isRow 12 = .ok (.iconst 1, 1) := by decide +kernel
theorem d_Mod_isRow_13 : decode b_Mod_isRow 13 = .ok (.goto 4, 3) := by decide +kernel
theorem d_Mod_isRow_16 : decode b_Mod_isRow 16 = .ok (.iconst 0, 1) := by decide +kernel
theorem d_Mod_isRow_17 : decode b_Mod_isRow 17 = .ok (.ireturn, 1) := by decide +kernel
theorem d_Mod_has_0 : decode b_Mod_has 0 = .ok (.aload_n 0, 1) := by decide +kernel
theorem d_Mod_has_1 : decode b_Mod_has 1 = .ok (.iload_n 1, 1) := by decide +kernel
theorem d_Mod_has_2 : decode b_Mod_has 2 = .ok (.invokevirtual 42, 3) := by decide +kernel
theorem d_Mod_has_5 : decode b_Mod_has 5 = .ok (.ifCond .eq 36, 3) := by decide +kernel
theorem d_Mod_has_8 : decode b_Mod_has 8 = .ok (.iload_n 2, 1) := by decide +kernel
theorem d_Mod_has_9 : decode b_Mod_has 9 = .ok (.aload_n 0, 1) := by decide +kernel
theorem d_Mod_has_10 : decode b_Mod_has 10 = .ok (.getfield 7, 3) := by decide +kernel
theorem d_Mod_has_13 : decode b_Mod_has 13 = .ok (.iload_n 1, 1) := by decide +kernel
theorem d_Mod_has_14 : decode b_Mod_has 14 = .ok (.iaload, 1) := by decide +kernel
theorem d_Mod_has_15 : decode b_Mod_has 15 = .ok (.if_icmp .lt 26, 3) := by decide +kernel
theorem d_Mod_has_18 : decode b_Mod_has 18 = .ok (.iload_n 2, 1) := by decide +kernel
theorem d_Mod_has_19 : decode b_Mod_has 19 = .ok (.aload_n 0, 1) := by decide +kernel
theorem d_Mod_has_20 : decode b_Mod_has 20 = .ok (.getfield 7, 3) := by decide +kernel
theorem d_Mod_has_23 : decode b_Mod_has 23 = .ok (.iload_n 1, 1) := by decide +kernel
theorem d_Mod_has_24 : decode b_Mod_has 24 = .ok (.iaload, 1) := by decide +kernel
theorem d_Mod_has_25 : decode b_Mod_has 25 = .ok (.aload_n 0, 1) := by decide +kernel
theorem d_Mod_has_26 : decode b_Mod_has 26 = .ok (.getfield 13, 3) := by decide +kernel
theorem d_Mod_has_29 : decode b_Mod_has 29 = .ok (.iload_n 1, 1) := by decide +kernel
theorem d_Mod_has_30 : decode b_Mod_has 30 = .ok (.iaload, 1) := by decide +kernel
theorem d_Mod_has_31 : decode b_Mod_has 31 = .ok (.iadd, 1) := by decide +kernel
theorem d_Mod_has_32 : decode b_Mod_has 32 = .ok (.iconst 1, 1) := by decide +kernel
theorem d_Mod_has_33 : decode b_Mod_has 33 = .ok (.isub, 1) := by decide +kernel
theorem d_Mod_has_34 : decode b_Mod_has 34 = .ok (.if_icmp .gt 7, 3) := by decide +kernel
theorem d_Mod_has_37 : decode b_Mod_has 37 = .ok (.iconst 1, 1) := by decide +kernel
theorem d_Mod_has_38 : decode b_Mod_has 38 = .ok (.goto 4, 3) := by decide +kernel
theorem d_Mod_has_41 : decode b_Mod_has 41 = .ok (.iconst 0, 1) := by decide +kernel
theorem d_Mod_has_42 : decode b_Mod_has 42 = .ok (.ireturn, 1) := by decide +kernel
theorem d_Mod_at_0 : decode b_Mod_at 0 = .ok (.bipush 36, 2) := by decide +kernel
theorem d_Mod_at_2 : decode b_Mod_at 2 = .ok (.bipush 48, 2) := by decide +kernel
theorem d_Mod_at_4 : decode b_Mod_at 4 = .ok (.iload_n 1, 1) := by decide +kernel
theorem d_Mod_at_5 : decode b_Mod_at 5 = .ok (.imul, 1) := by decide +kernel
theorem d_Mod_at_6 : decode b_Mod_at 6 = .ok (.iload_n 2, 1) := by decide +kernel
theorem d_Mod_at_7 : decode b_Mod_at 7 = .ok (.iadd, 1) := by decide +kernel
theorem d_Mod_at_8 : decode b_Mod_at 8 = .ok (.aload_n 0, 1) := by decide +kernel
theorem d_Mod_at_9 : decode b_Mod_at 9 = .ok (.getfield 7, 3) := by decide +kernel
theorem d_Mod_at_12 : decode b_Mod_at 12 = .ok (.iload_n 1, 1) := by decide +kernel
theorem d_Mod_at_13 : decode b_Mod_at 13 = .ok (.iaload, 1) := by decide +kernel
theorem d_Mod_at_14 : decode b_Mod_at 14 = .ok (.isub, 1) := by decide +kernel
theorem d_Mod_at_15 : decode b_Mod_at 15 = .ok (.imul, 1) := by decide +kernel
theorem d_Mod_at_16 : decode b_Mod_at 16 = .ok (.ireturn, 1) := by decide +kernel
theorem d_Mod_open_0 : decode b_Mod_open 0 = .ok (.aload_n 0, 1) := by decide +kernel
theorem d_Mod_open_1 : decode b_Mod_open 1 = .ok (.getfield 7, 3) := by decide +kernel
theorem d_Mod_open_4 : decode b_Mod_open 4 = .ok (.aload_n 0, 1) := by decide +kernel
theorem d_Mod_open_5 : decode b_Mod_open 5 = .ok (.getfield 39, 3) := by decide +kernel
theorem d_Mod_open_8 : decode b_Mod_open 8 = .ok (.iload_n 1, 1) := by decide +kernel
theorem d_Mod_open_9 : decode b_Mod_open 9 = .ok (.iastore, 1) := by decide +kernel
theorem d_Mod_open_10 : decode b_Mod_open 10 = .ok (.aload_n 0, 1) := by decide +kernel
theorem d_Mod_open_11 : decode b_Mod_open 11 = .ok (.getfield 13, 3) := by decide +kernel
theorem d_Mod_open_14 : decode b_Mod_open 14 = .ok (.aload_n 0, 1) := by decide +kernel
theorem d_Mod_open_15 : decode b_Mod_open 15 = .ok (.getfield 39, 3) := by decide +kernel
theorem d_Mod_open_18 : decode b_Mod_open 18 = .ok (.iload_n 2, 1) := by decide +kernel
theorem d_Mod_open_19 : decode b_Mod_open 19 = .ok (.iastore, 1) := by decide +kernel
theorem d_Mod_open_20 : decode b_Mod_open 20 = .ok (.iconst 0, 1) := by decide +kernel
theorem d_Mod_open_21 : decode b_Mod_open 21 = .ok (.istore_n 3, 1) := by decide +kernel
theorem d_Mod_open_22 : decode b_Mod_open 22 = .ok (.iload_n 3, 1) := by decide +kernel
theorem d_Mod_open_23 : decode b_Mod_open 23 = .ok (.sipush 1728, 3) := by decide +kernel
theorem d_Mod_open_26 : decode b_Mod_open 26 = .ok (.if_icmp .ge 25, 3) := by decide +kernel
theorem d_Mod_open_29 : decode b_Mod_open 29 = .ok (.aload_n 0, 1) := by decide +kernel
theorem d_Mod_open_30 : decode b_Mod_open 30 = .ok (.getfield 16, 3) := by decide +kernel
theorem d_Mod_open_33 : decode b_Mod_open 33 = .ok (.sipush 1728, 3) := by decide +kernel
theorem d_Mod_open_36 : decode b_Mod_open 36 = .ok (.aload_n 0, 1) := by decide +kernel
theorem d_Mod_open_37 : decode b_Mod_open 37 = .ok (.getfield 39, 3) := by decide +kernel
theorem d_Mod_open_40 : decode b_Mod_open 40 = .ok (.imul, 1) := by decide +kernel
theorem d_Mod_open_41 : decode b_Mod_open 41 = .ok (.iload_n 3, 1) := by decide +kernel
theorem d_Mod_open_42 : decode b_Mod_open 42 = .ok (.iadd, 1) := by decide +kernel
theorem d_Mod_open_43 : decode b_Mod_open 43 = .ok (.iconst 0, 1) := by decide +kernel
theorem d_Mod_open_44 : decode b_Mod_open 44 = .ok (.iastore, 1) := by decide +kernel
theorem d_Mod_open_45 : decode b_Mod_open 45 = .ok (.iinc 3 1, 3) := by decide +kernel
theorem d_Mod_open_48 : decode b_Mod_open 48 = .ok (.goto (-26), 3) := by decide +kernel
theorem d_Mod_open_51 : decode b_Mod_open 51 = .ok (.aload_n 0, 1) := by decide +kernel
theorem d_Mod_open_52 : decode b_Mod_open 52 = .ok (.dup, 1) := by decide +kernel
theorem d_Mod_open_53 : decode b_Mod_open 53 = .ok (.getfield 39, 3) := by decide +kernel
theorem d_Mod_open_56 : decode b_Mod_open 56 = .ok (.iconst 1, 1) := by decide +kernel
theorem d_Mod_open_57 : decode b_Mod_open 57 = .ok (.iadd, 1) := by decide +kernel
theorem d_Mod_open_58 : decode b_Mod_open 58 = .ok (.putfield 39, 3) := by decide +kernel
theorem d_Mod_open_61 : decode b_Mod_open 61 = .ok (.return_, 1) := by decide +kernel
theorem d_Mod_row_0 : decode b_Mod_row 0 = .ok (.iload_n 2, 1) := by decide +kernel
theorem d_Mod_row_1 : decode b_Mod_row 1 = .ok (.iconst 1, 1) := by decide +kernel
theorem d_Mod_row_2 : decode b_Mod_row 2 = .ok (.bipush 48, 2) := by decide +kernel
theorem d_Mod_row_4 : decode b_Mod_row 4 = .ok (.invokestatic 46, 3) := by decide +kernel
theorem d_Mod_row_7 : decode b_Mod_row 7 = .ok (.ifCond .eq 31, 3) := by decide +kernel
theorem d_Mod_row_10 : decode b_Mod_row 10 = .ok (.iload_n 1, 1) := by decide +kernel
theorem d_Mod_row_11 : decode b_Mod_row 11 = .ok (.sipush (-9999), 3) := by decide +kernel
theorem d_Mod_row_14 : decode b_Mod_row 14 = .ok (.sipush 9999, 3) := by decide +kernel
theorem d_Mod_row_17 : decode b_Mod_row 17 = .ok (.invokestatic 46, 3) := by decide +kernel
theorem d_Mod_row_20 : decode b_Mod_row 20 = .ok (.ifCond .eq 18, 3) := by decide +kernel
theorem d_Mod_row_23 : decode b_Mod_row 23 = .ok (.iload_n 1, 1) := by decide +kernel
theorem d_Mod_row_24 : decode b_Mod_row 24 = .ok (.iload_n 2, 1) := by decide +kernel
theorem d_Mod_row_25 : decode b_Mod_row 25 = .ok (.iadd, 1) := by decide +kernel
theorem d_Mod_row_26 : decode b_Mod_row 26 = .ok (.iconst 1, 1) := by decide +kernel
theorem d_Mod_row_27 : decode b_Mod_row 27 = .ok (.isub, 1) := by decide +kernel
theorem d_Mod_row_28 : decode b_Mod_row 28 = .ok (.sipush 9999, 3) := by decide +kernel
theorem d_Mod_row_31 : decode b_Mod_row 31 = .ok (.if_icmp .gt 7, 3) := by decide +kernel
theorem d_Mod_row_34 : decode b_Mod_row 34 = .ok (.iconst 1, 1) := by decide +kernel
theorem d_Mod_row_35 : decode b_Mod_row 35 = .ok (.goto 4, 3) := by decide +kernel
theorem d_Mod_row_38 : decode b_Mod_row 38 = .ok (.iconst 0, 1) := by decide +kernel
theorem d_Mod_row_39 : decode b_Mod_row 39 = .ok (.istore_n 3, 1) := by decide +kernel
theorem d_Mod_row_40 : decode b_Mod_row 40 = .ok (.aload_n 0, 1) := by decide +kernel
theorem d_Mod_row_41 : decode b_Mod_row 41 = .ok (.aload_n 0, 1) := by decide +kernel
theorem d_Mod_row_42 : decode b_Mod_row 42 = .ok (.getfield 39, 3) := by decide +kernel
theorem d_Mod_row_45 : decode b_Mod_row 45 = .ok (.bipush 8, 2) := by decide +kernel
theorem d_Mod_row_47 : decode b_Mod_row 47 = .ok (.if_icmp .ge 7, 3) := by decide +kernel
theorem d_Mod_row_50 : decode b_Mod_row 50 = .ok (.iconst 1, 1) := by decide +kernel
theorem d_Mod_row_51 : decode b_Mod_row 51 = .ok (.goto 4, 3) := by decide +kernel
theorem d_Mod_row_54 : decode b_Mod_row 54 = .ok (.iconst 0, 1) := by decide +kernel
theorem d_Mod_row_55 : decode b_Mod_row 55 = .ok (.iload_n 3, 1) := by decide +kernel
theorem d_Mod_row_56 : decode b_Mod_row 56 = .ok (.iconst 1, 1) := by decide +kernel
theorem d_Mod_row_57 : decode b_Mod_row 57 = .ok (.iconst 1, 1) := by decide +kernel
theorem d_Mod_row_58 : decode b_Mod_row 58 = .ok (.invokevirtual 50, 3) := by decide +kernel
theorem d_Mod_row_61 : decode b_Mod_row 61 = .ok (.ifCond .ne 5, 3) := by decide +kernel
theorem d_Mod_row_64 : decode b_Mod_row 64 = .ok (.iconst 0, 1) := by decide +kernel
theorem d_Mod_row_65 : decode b_Mod_row 65 = .ok (.ireturn, 1) := by decide +kernel
theorem d_Mod_row_66 : decode b_Mod_row 66 = .ok (.aload_n 0, 1) := by decide +kernel
theorem d_Mod_row_67 : decode b_Mod_row 67 = .ok (.iload_n 1, 1) := by decide +kernel
theorem d_Mod_row_68 : decode b_Mod_row 68 = .ok (.iload_n 2, 1) := by decide +kernel
theorem d_Mod_row_69 : decode b_Mod_row 69 = .ok (.invokevirtual 54, 3) := by decide +kernel
theorem d_Mod_row_72 : decode b_Mod_row 72 = .ok (.aload_n 0, 1) := by decide +kernel
theorem d_Mod_row_73 : decode b_Mod_row 73 = .ok (.getfield 39, 3) := by decide +kernel
theorem d_Mod_row_76 : decode b_Mod_row 76 = .ok (.iconst 1, 1) := by decide +kernel
theorem d_Mod_row_77 : decode b_Mod_row 77 = .ok (.isub, 1) := by decide +kernel
theorem d_Mod_row_78 : decode b_Mod_row 78 = .ok (.ireturn, 1) := by decide +kernel
theorem d_Mod_weight_0 : decode b_Mod_weight 0 = .ok (.aload_n 0, 1) := by decide +kernel
theorem d_Mod_weight_1 : decode b_Mod_weight 1 = .ok (.aload_n 0, 1) := by decide +kernel
theorem d_Mod_weight_2 : decode b_Mod_weight 2 = .ok (.iload_n 1, 1) := by decide +kernel
theorem d_Mod_weight_3 : decode b_Mod_weight 3 = .ok (.iload_n 2, 1) := by decide +kernel
theorem d_Mod_weight_4 : decode b_Mod_weight 4 = .ok (.invokevirtual 58, 3) := by decide +kernel
theorem d_Mod_weight_7 : decode b_Mod_weight 7 = .ok (.lload_n 3, 1) := by decide +kernel
theorem d_Mod_weight_8 : decode b_Mod_weight 8 = .ok (.lconst 0, 1) := by decide +kernel
theorem d_Mod_weight_9 : decode b_Mod_weight 9 = .ok (.lcmp, 1) := by decide +kernel
theorem d_Mod_weight_10 : decode b_Mod_weight 10 = .ok (.ifCond .lt 7, 3) := by decide +kernel
theorem d_Mod_weight_13 : decode b_Mod_weight 13 = .ok (.iconst 1, 1) := by decide +kernel
theorem d_Mod_weight_14 : decode b_Mod_weight 14 = .ok (.goto 4, 3) := by decide +kernel
theorem d_Mod_weight_17 : decode b_Mod_weight 17 = .ok (.iconst 0, 1) := by decide +kernel
theorem d_Mod_weight_18 : decode b_Mod_weight 18 = .ok (.iconst 1, 1) := by decide +kernel
theorem d_Mod_weight_19 : decode b_Mod_weight 19 = .ok (.iconst 1, 1) := by decide +kernel
theorem d_Mod_weight_20 : decode b_Mod_weight 20 = .ok (.invokevirtual 50, 3) := by decide +kernel
theorem d_Mod_weight_23 : decode b_Mod_weight 23 = .ok (.ifCond .ne 5, 3) := by decide +kernel
theorem d_Mod_weight_26 : decode b_Mod_weight 26 = .ok (.iconst 0, 1) := by decide +kernel
theorem d_Mod_weight_27 : decode b_Mod_weight 27 = .ok (.ireturn, 1) := by decide +kernel
theorem d_Mod_weight_28 : decode b_Mod_weight 28 = .ok (.iconst 0, 1) := by decide +kernel
theorem d_Mod_weight_29 : decode b_Mod_weight 29 = .ok (.istore 5, 2) := by decide +kernel
theorem d_Mod_weight_31 : decode b_Mod_weight 31 = .ok (.lload_n 3, 1) := by decide +kernel
theorem d_Mod_weight_32 : decode b_Mod_weight 32 = .ok (.lstore 6, 2) := by decide +kernel
theorem d_Mod_weight_34 : decode b_Mod_weight 34 = .ok (.iconst 0, 1) := by decide +kernel
theorem d_Mod_weight_35 : decode b_Mod_weight 35 = .ok (.istore 8, 2) := by decide +kernel
theorem d_Mod_weight_37 : decode b_Mod_weight 37 = .ok (.iload 8, 2) := by decide +kernel
theorem d_Mod_weight_39 : decode b_Mod_weight 39 = .ok (.bipush 36, 2) := by decide +kernel
theorem d_Mod_weight_41 : decode b_Mod_weight 41 = .ok (.if_icmp .ge 73, 3) := by decide +kernel
theorem d_Mod_weight_44 : decode b_Mod_weight 44 = .ok (.lload 6, 2) := by decide +kernel
theorem d_Mod_weight_46 : decode b_Mod_weight 46 = .ok (.ldc2_w 62, 3) := by decide +kernel
theorem d_Mod_weight_49 : decode b_Mod_weight 49 = .ok (.lrem, 1) := by decide +kernel
theorem d_Mod_weight_50 : decode b_Mod_weight 50 = .ok (.l2i, 1) := by decide +kernel
theorem d_Mod_weight_51 : decode b_Mod_weight 51 = .ok (.istore 9, 2) := by decide +kernel
theorem d_Mod_weight_53 : decode b_Mod_weight 53 = .ok (.lload 6, 2) := by decide +kernel
theorem d_Mod_weight_55 : decode b_Mod_weight 55 = .ok (.ldc2_w 62, 3) := by decide +kernel
theorem d_Mod_weight_58 : decode b_Mod_weight 58 = .ok (.ldiv, 1) := by decide +kernel
theorem d_Mod_weight_59 : decode b_Mod_weight 59 = .ok (.lstore 6, 2) := by decide +kernel
theorem d_Mod_weight_61 : decode b_Mod_weight 61 = .ok (.iload 5, 2) := by decide +kernel
theorem d_Mod_weight_63 : decode b_Mod_weight 63 = .ok (.ifCond .ne 22, 3) := by decide +kernel
theorem d_Mod_weight_66 : decode b_Mod_weight 66 = .ok (.aload_n 0, 1) := by decide +kernel
theorem d_Mod_weight_67 : decode b_Mod_weight 67 = .ok (.getfield 16, 3) := by decide +kernel
theorem d_Mod_weight_70 : decode b_Mod_weight 70 = .ok (.aload_n 0, 1) := by decide +kernel
theorem d_Mod_weight_71 : decode b_Mod_weight 71 = .ok (.iload_n 1, 1) := by decide +kernel
theorem d_Mod_weight_72 : decode b_Mod_weight 72 = .ok (.iload_n 2, 1) := by decide +kernel
theorem d_Mod_weight_73 : decode b_Mod_weight 73 = .ok (.invokevirtual 64, 3) := by decide +kernel
theorem d_Mod_weight_76 : decode b_Mod_weight 76 = .ok (.iload 8, 2) := by decide +kernel
theorem d_Mod_weight_78 : decode b_Mod_weight 78 = .ok (.iadd, 1) := by decide +kernel
theorem d_Mod_weight_79 : decode b_Mod_weight 79 = .ok (.iaload, 1) := by decide +kernel
theorem d_Mod_weight_80 : decode b_Mod_weight 80 = .ok (.iload 9, 2) := by decide +kernel
theorem d_Mod_weight_82 : decode b_Mod_weight 82 = .ok (.if_icmp .eq 7, 3) := by decide +kernel
theorem d_Mod_weight_85 : decode b_Mod_weight 85 = .ok (.iconst 1, 1) := by decide +kernel
theorem d_Mod_weight_86 : decode b_Mod_weight 86 = .ok (.goto 4, 3) := by decide +kernel
theorem d_Mod_weight_89 : decode b_Mod_weight 89 = .ok (.iconst 0, 1) := by decide +kernel
theorem d_Mod_weight_90 : decode b_Mod_weight 90 = .ok (.istore 5, 2) := by decide +kernel
theorem d_Mod_weight_92 : decode b_Mod_weight 92 = .ok (.aload_n 0, 1) := by decide +kernel
theorem d_Mod_weight_93 : decode b_Mod_weight 93 = .ok (.getfield 16, 3) := by decide +kernel
theorem d_Mod_weight_96 : decode b_Mod_weight 96 = .ok (.aload_n 0, 1) := by decide +kernel
theorem d_Mod_weight_97 : decode b_Mod_weight 97 = .ok (.iload_n 1, 1) := by decide +kernel
theorem d_Mod_weight_98 : decode b_Mod_weight 98 = .ok (.iload_n 2, 1) := by decide +kernel
theorem d_Mod_weight_99 : decode b_Mod_weight 99 = .ok (.invokevirtual 64, 3) := by decide +kernel
theorem d_Mod_weight_102 : decode b_Mod_weight 102 = .ok (.iload 8, 2) := by decide +kernel
theorem d_Mod_weight_104 : decode b_Mod_weight 104 = .ok (.iadd, 1) := by decide +kernel
theorem d_Mod_weight_105 : decode b_Mod_weight 105 = .ok (.iload 9, 2) := by decide +kernel
theorem d_Mod_weight_107 : decode b_Mod_weight 107 = .ok (.iastore, 1) := by decide +kernel
theorem d_Mod_weight_108 : decode b_Mod_weight 108 = .ok (.iinc 8 1, 3) := by decide +kernel
theorem d_Mod_weight_111 : decode b_Mod_weight 111 = .ok (.goto (-74), 3) := by decide +kernel
theorem d_Mod_weight_114 : decode b_Mod_weight 114 = .ok (.iload 5, 2) := by decide +kernel
theorem d_Mod_weight_116 : decode b_Mod_weight 116 = .ok (.ireturn, 1) := by decide +kernel
theorem d_Mod_blank_0 : decode b_Mod_blank 0 = .ok (.iconst 0, 1) := by decide +kernel
theorem d_Mod_blank_1 : decode b_Mod_blank 1 = .ok (.istore_n 1, 1) := by decide +kernel
theorem d_Mod_blank_2 : decode b_Mod_blank 2 = .ok (.iload_n 1, 1) := by decide +kernel
theorem d_Mod_blank_3 : decode b_Mod_blank 3 = .ok (.bipush 80, 2) := by decide +kernel
theorem d_Mod_blank_5 : decode b_Mod_blank 5 = .ok (.if_icmp .ge 16, 3) := by decide +kernel
theorem d_Mod_blank_8 : decode b_Mod_blank 8 = .ok (.aload_n 0, 1) := by decide +kernel
theorem d_Mod_blank_9 : decode b_Mod_blank 9 = .ok (.getfield 25, 3) := by decide +kernel
theorem d_Mod_blank_12 : decode b_Mod_blank 12 = .ok (.iload_n 1, 1) := by decide +kernel
theorem d_Mod_blank_13 : decode b_Mod_blank 13 = .ok (.iconst 0, 1) := by decide +kernel
theorem d_Mod_blank_14 : decode b_Mod_blank 14 = .ok (.iastore, 1) := by decide +kernel
theorem d_Mod_blank_15 : decode b_Mod_blank 15 = .ok (.iinc 1 1, 3) := by decide +kernel
theorem d_Mod_blank_18 : decode b_Mod_blank 18 = .ok (.goto (-16), 3) := by decide +kernel
theorem d_Mod_blank_21 : decode b_Mod_blank 21 = .ok (.return_, 1) := by decide +kernel
theorem d_Mod_plus_0 : decode b_Mod_plus 0 = .ok (.aload_n 0, 1) := by decide +kernel
theorem d_Mod_plus_1 : decode b_Mod_plus 1 = .ok (.iload_n 1, 1) := by decide +kernel
theorem d_Mod_plus_2 : decode b_Mod_plus 2 = .ok (.iload_n 2, 1) := by decide +kernel
theorem d_Mod_plus_3 : decode b_Mod_plus 3 = .ok (.invokevirtual 58, 3) := by decide +kernel
theorem d_Mod_plus_6 : decode b_Mod_plus 6 = .ok (.ifCond .ne 4, 3) := by decide +kernel
theorem d_Mod_plus_9 : decode b_Mod_plus 9 = .ok (.return_, 1) := by decide +kernel
theorem d_Mod_plus_10 : decode b_Mod_plus 10 = .ok (.iconst 0, 1) := by decide +kernel
theorem d_Mod_plus_11 : decode b_Mod_plus 11 = .ok (.istore_n 3, 1) := by decide +kernel
theorem d_Mod_plus_12 : decode b_Mod_plus 12 = .ok (.iconst 0, 1) := by decide +kernel
theorem d_Mod_plus_13 : decode b_Mod_plus 13 = .ok (.istore 4, 2) := by decide +kernel
theorem d_Mod_plus_15 : decode b_Mod_plus 15 = .ok (.iload 4, 2) := by decide +kernel
theorem d_Mod_plus_17 : decode b_Mod_plus 17 = .ok (.bipush 80, 2) := by decide +kernel
theorem d_Mod_plus_19 : decode b_Mod_plus 19 = .ok (.if_icmp .ge 64, 3) := by decide +kernel
theorem d_Mod_plus_22 : decode b_Mod_plus 22 = .ok (.aload_n 0, 1) := by decide +kernel
theorem d_Mod_plus_23 : decode b_Mod_plus 23 = .ok (.getfield 25, 3) := by decide +kernel
theorem d_Mod_plus_26 : decode b_Mod_plus 26 = .ok (.iload 4, 2) := by decide +kernel
theorem d_Mod_plus_28 : decode b_Mod_plus 28 = .ok (.iaload, 1) := by decide +kernel
theorem d_Mod_plus_29 : decode b_Mod_plus 29 = .ok (.iload_n 3, 1) := by decide +kernel
theorem d_Mod_plus_30 : decode b_Mod_plus 30 = .ok (.iadd, 1) := by decide +kernel
theorem d_Mod_plus_31 : decode b_Mod_plus 31 = .ok (.iload 4, 2) := by decide +kernel
theorem d_Mod_plus_33 : decode b_Mod_plus 33 = .ok (.bipush 36, 2) := by decide +kernel
theorem d_Mod_plus_35 : decode b_Mod_plus 35 = .ok (.if_icmp .ge 20, 3) := by decide +kernel
theorem d_Mod_plus_38 : decode b_Mod_plus 38 = .ok (.aload_n 0, 1) := by decide +kernel
theorem d_Mod_plus_39 : decode b_Mod_plus 39 = .ok (.getfield 16, 3) := by decide +kernel
theorem d_Mod_plus_42 : decode b_Mod_plus 42 = .ok (.aload_n 0, 1) := by decide +kernel
theorem d_Mod_plus_43 : decode b_Mod_plus 43 = .ok (.iload_n 1, 1) := by decide +kernel
theorem d_Mod_plus_44 : decode b_Mod_plus 44 = .ok (.iload_n 2, 1) := by decide +kernel
theorem d_Mod_plus_45 : decode b_Mod_plus 45 = .ok (.invokevirtual 64, 3) := by decide +kernel
theorem d_Mod_plus_48 : decode b_Mod_plus 48 = .ok (.iload 4, 2) := by decide +kernel
theorem d_Mod_plus_50 : decode b_Mod_plus 50 = .ok (.iadd, 1) := by decide +kernel
theorem d_Mod_plus_51 : decode b_Mod_plus 51 = .ok (.iaload, 1) := by decide +kernel
theorem d_Mod_plus_52 : decode b_Mod_plus 52 = .ok (.goto 4, 3) := by decide +kernel
theorem d_Mod_plus_55 : decode b_Mod_plus 55 = .ok (.iconst 0, 1) := by decide +kernel
theorem d_Mod_plus_56 : decode b_Mod_plus 56 = .ok (.iadd, 1) := by decide +kernel
theorem d_Mod_plus_57 : decode b_Mod_plus 57 = .ok (.istore 5, 2) := by decide +kernel
theorem d_Mod_plus_59 : decode b_Mod_plus 59 = .ok (.aload_n 0, 1) := by decide +kernel
theorem d_Mod_plus_60 : decode b_Mod_plus 60 = .ok (.getfield 25, 3) := by decide +kernel
theorem d_Mod_plus_63 : decode b_Mod_plus 63 = .ok (.iload 4, 2) := by decide +kernel
theorem d_Mod_plus_65 : decode b_Mod_plus 65 = .ok (.iload 5, 2) := by decide +kernel
theorem d_Mod_plus_67 : decode b_Mod_plus 67 = .ok (.bipush 10, 2) := by decide +kernel
theorem d_Mod_plus_69 : decode b_Mod_plus 69 = .ok (.irem, 1) := by decide +kernel
theorem d_Mod_plus_70 : decode b_Mod_plus 70 = .ok (.iastore, 1) := by decide +kernel
theorem d_Mod_plus_71 : decode b_Mod_plus 71 = .ok (.iload 5, 2) := by decide +kernel
theorem d_Mod_plus_73 : decode b_Mod_plus 73 = .ok (.bipush 10, 2) := by decide +kernel
theorem d_Mod_plus_75 : decode b_Mod_plus 75 = .ok (.idiv, 1) := by decide +kernel
theorem d_Mod_plus_76 : decode b_Mod_plus 76 = .ok (.istore_n 3, 1) := by decide +kernel
theorem d_Mod_plus_77 : decode b_Mod_plus 77 = .ok (.iinc 4 1, 3) := by decide +kernel
theorem d_Mod_plus_80 : decode b_Mod_plus 80 = .ok (.goto (-65), 3) := by decide +kernel
theorem d_Mod_plus_83 : decode b_Mod_plus 83 = .ok (.return_, 1) := by decide +kernel
theorem d_Mod_keep_0 : decode b_Mod_keep 0 = .ok (.iconst 1, 1) := by decide +kernel
theorem d_Mod_keep_1 : decode b_Mod_keep 1 = .ok (.istore_n 3, 1) := by decide +kernel
theorem d_Mod_keep_2 : decode b_Mod_keep 2 = .ok (.iconst 0, 1) := by decide +kernel
theorem d_Mod_keep_3 : decode b_Mod_keep 3 = .ok (.istore 4, 2) := by decide +kernel
theorem d_Mod_keep_5 : decode b_Mod_keep 5 = .ok (.iload 4, 2) := by decide +kernel
theorem d_Mod_keep_7 : decode b_Mod_keep 7 = .ok (.bipush 80, 2) := by decide +kernel
theorem d_Mod_keep_9 : decode b_Mod_keep 9 = .ok (.if_icmp .ge 64, 3) := by decide +kernel
theorem d_Mod_keep_12 : decode b_Mod_keep 12 = .ok (.iload_n 3, 1) := by decide +kernel
theorem d_Mod_keep_13 : decode b_Mod_keep 13 = .ok (.ifCond .eq 24, 3) := by decide +kernel
theorem d_Mod_keep_16 : decode b_Mod_keep 16 = .ok (.iload 4, 2) := by decide +kernel
theorem d_Mod_keep_18 : decode b_Mod_keep 18 = .ok (.bipush 36, 2) := by decide +kernel
theorem d_Mod_keep_20 : decode b_Mod_keep 20 = .ok (.if_icmp .lt 13, 3) := by decide +kernel
theorem d_Mod_keep_23 : decode b_Mod_keep 23 = .ok (.aload_n 0, 1) := by decide +kernel
theorem d_Mod_keep_24 : decode b_Mod_keep 24 = .ok (.getfield 25, 3) := by decide +kernel
theorem d_Mod_keep_27 : decode b_Mod_keep 27 = .ok (.iload 4, 2) := by decide +kernel
theorem d_Mod_keep_29 : decode b_Mod_keep 29 = .ok (.iaload, 1) := by decide +kernel
theorem d_Mod_keep_30 : decode b_Mod_keep 30 = .ok (.ifCond .ne 7, 3) := by decide +kernel
theorem d_Mod_keep_33 : decode b_Mod_keep 33 = .ok (.iconst 1, 1) := by decide +kernel
theorem d_Mod_keep_34 : decode b_Mod_keep 34 = .ok (.goto 4, 3) := by decide +kernel
theorem d_Mod_keep_37 : decode b_Mod_keep 37 = .ok (.iconst 0, 1) := by decide +kernel
theorem d_Mod_keep_38 : decode b_Mod_keep 38 = .ok (.istore_n 3, 1) := by decide +kernel
theorem d_Mod_keep_39 : decode b_Mod_keep 39 = .ok (.iload 4, 2) := by decide +kernel
theorem d_Mod_keep_41 : decode b_Mod_keep 41 = .ok (.bipush 36, 2) := by decide +kernel
theorem d_Mod_keep_43 : decode b_Mod_keep 43 = .ok (.if_icmp .ge 24, 3) := by decide +kernel
theorem d_Mod_keep_46 : decode b_Mod_keep 46 = .ok (.aload_n 0, 1) := by decide +kernel
theorem d_Mod_keep_47 : decode b_Mod_keep 47 = .ok (.getfield 16, 3) := by decide +kernel
theorem d_Mod_keep_50 : decode b_Mod_keep 50 = .ok (.aload_n 0, 1) := by decide +kernel
theorem d_Mod_keep_51 : decode b_Mod_keep 51 = .ok (.iload_n 1, 1) := by decide +kernel
theorem d_Mod_keep_52 : decode b_Mod_keep 52 = .ok (.iload_n 2, 1) := by decide +kernel
theorem d_Mod_keep_53 : decode b_Mod_keep 53 = .ok (.invokevirtual 64, 3) := by decide +kernel
theorem d_Mod_keep_56 : decode b_Mod_keep 56 = .ok (.iload 4, 2) := by decide +kernel
theorem d_Mod_keep_58 : decode b_Mod_keep 58 = .ok (.iadd, 1) := by decide +kernel
theorem d_Mod_keep_59 : decode b_Mod_keep 59 = .ok (.aload_n 0, 1) := by decide +kernel
theorem d_Mod_keep_60 : decode b_Mod_keep 60 = .ok (.getfield 25, 3) := by decide +kernel
theorem d_Mod_keep_63 : decode b_Mod_keep 63 = .ok (.iload 4, 2) := by decide +kernel
theorem d_Mod_keep_65 : decode b_Mod_keep 65 = .ok (.iaload, 1) := by decide +kernel
theorem d_Mod_keep_66 : decode b_Mod_keep 66 = .ok (.iastore, 1) := by decide +kernel
theorem d_Mod_keep_67 : decode b_Mod_keep 67 = .ok (.iinc 4 1, 3) := by decide +kernel
theorem d_Mod_keep_70 : decode b_Mod_keep 70 = .ok (.goto (-65), 3) := by decide +kernel
theorem d_Mod_keep_73 : decode b_Mod_keep 73 = .ok (.iload_n 3, 1) := by decide +kernel
theorem d_Mod_keep_74 : decode b_Mod_keep 74 = .ok (.ireturn, 1) := by decide +kernel
theorem d_Mod_add_0 : decode b_Mod_add 0 = .ok (.aload_n 0, 1) := by decide +kernel
theorem d_Mod_add_1 : decode b_Mod_add 1 = .ok (.iload_n 1, 1) := by decide +kernel
theorem d_Mod_add_2 : decode b_Mod_add 2 = .ok (.invokevirtual 42, 3) := by decide +kernel
theorem d_Mod_add_5 : decode b_Mod_add 5 = .ok (.ifCond .eq 15, 3) := by decide +kernel
theorem d_Mod_add_8 : decode b_Mod_add 8 = .ok (.aload_n 0, 1) := by decide +kernel
theorem d_Mod_add_9 : decode b_Mod_add 9 = .ok (.iload_n 2, 1) := by decide +kernel
theorem d_Mod_add_10 : decode b_Mod_add 10 = .ok (.invokevirtual 42, 3) := by decide +kernel
theorem d_Mod_add_13 : decode b_Mod_add 13 = .ok (.ifCond .eq 7, 3) := by decide +kernel
theorem d_Mod_add_16 : decode b_Mod_add 16 = .ok (.iconst 1, 1) := by decide +kernel
theorem d_Mod_add_17 : decode b_Mod_add 17 = .ok (.goto 4, 3) := by decide +kernel
theorem d_Mod_add_20 : decode b_Mod_add 20 = .ok (.iconst 0, 1) := by decide +kernel
theorem d_Mod_add_21 : decode b_Mod_add 21 = .ok (.istore_n 3, 1) := by decide +kernel
theorem d_Mod_add_22 : decode b_Mod_add 22 = .ok (.iconst 0, 1) := by decide +kernel
theorem d_Mod_add_23 : decode b_Mod_add 23 = .ok (.istore 4, 2) := by decide +kernel
theorem d_Mod_add_25 : decode b_Mod_add 25 = .ok (.iconst (-1), 1) := by decide +kernel
theorem d_Mod_add_26 : decode b_Mod_add 26 = .ok (.istore 5, 2) := by decide +kernel
theorem d_Mod_add_28 : decode b_Mod_add 28 = .ok (.iload_n 3, 1) := by decide +kernel
theorem d_Mod_add_29 : decode b_Mod_add 29 = .ok (.ifCond .eq 85, 3) := by decide +kernel
theorem d_Mod_add_32 : decode b_Mod_add 32 = .ok (.aload_n 0, 1) := by decide +kernel
theorem d_Mod_add_33 : decode b_Mod_add 33 = .ok (.getfield 7, 3) := by decide +kernel
theorem d_Mod_add_36 : decode b_Mod_add 36 = .ok (.iload_n 1, 1) := by decide +kernel
theorem d_Mod_add_37 : decode b_Mod_add 37 = .ok (.iaload, 1) := by decide +kernel
theorem d_Mod_add_38 : decode b_Mod_add 38 = .ok (.aload_n 0, 1) := by decide +kernel
theorem d_Mod_add_39 : decode b_Mod_add 39 = .ok (.getfield 7, 3) := by decide +kernel
theorem d_Mod_add_42 : decode b_Mod_add 42 = .ok (.iload_n 2, 1) := by decide +kernel
