theorem d_Set_init_0 : decode b_Set_init 0 = .ok (.aload_n 0, 1) := by decide +kernel
theorem d_Set_init_1 : decode b_Set_init 1 = .ok (.invokespecial 3, 3) := by decide +kernel
theorem d_Set_init_4 : decode b_Set_init 4 = .ok (.aload_n 0, 1) := by decide +kernel
theorem d_Set_init_5 : decode b_Set_init 5 = .ok (.bipush 48, 2) := by decide +kernel
theorem d_Set_init_7 : decode b_Set_init 7 = .ok (.newarray .int, 2) := by decide +kernel
theorem d_Set_init_9 : decode b_Set_init 9 = .ok (.putfield 9, 3) := by decide +kernel
theorem d_Set_init_12 : decode b_Set_init 12 = .ok (.aload_n 0, 1) := by decide +kernel
theorem d_Set_init_13 : decode b_Set_init 13 = .ok (.bipush 48, 2) := by decide +kernel
theorem d_Set_init_15 : decode b_Set_init 15 = .ok (.newarray .boolean, 2) := by decide +kernel
theorem d_Set_init_17 : decode b_Set_init 17 = .ok (.putfield 15, 3) := by decide +kernel
theorem d_Set_init_20 : decode b_Set_init 20 = .ok (.aload_n 0, 1) := by decide +kernel
theorem d_Set_init_21 : decode b_Set_init 21 = .ok (.bipush 24, 2) := by decide +kernel
theorem d_Set_init_23 : decode b_Set_init 23 = .ok (.newarray .int, 2) := by decide +kernel
theorem d_Set_init_25 : decode b_Set_init 25 = .ok (.putfield 19, 3) := by decide +kernel
theorem d_Set_init_28 : decode b_Set_init 28 = .ok (.aload_n 0, 1) := by decide +kernel
theorem d_Set_init_29 : decode b_Set_init 29 = .ok (.bipush 24, 2) := by decide +kernel
theorem d_Set_init_31 : decode b_Set_init 31 = .ok (.newarray .int, 2) := by decide +kernel
theorem d_Set_init_33 : decode b_Set_init 33 = .ok (.putfield 22, 3) := by decide +kernel
theorem d_Set_init_36 : decode b_Set_init 36 = .ok (.return_, 1) := by decide +kernel
theorem d_Set_rank_0 : decode b_Set_rank 0 = .ok (.iconst 0, 1) := by decide +kernel
theorem d_Set_rank_1 : decode b_Set_rank 1 = .ok (.istore_n 2, 1) := by decide +kernel
theorem d_Set_rank_2 : decode b_Set_rank 2 = .ok (.iload_n 2, 1) := by decide +kernel
theorem d_Set_rank_3 : decode b_Set_rank 3 = .ok (.aload_n 1, 1) := by decide +kernel
theorem d_Set_rank_4 : decode b_Set_rank 4 = .ok (.getfield 25, 3) := by decide +kernel
theorem d_Set_rank_7 : decode b_Set_rank 7 = .ok (.if_icmp .ge 65, 3) := by decide +kernel
theorem d_Set_rank_10 : decode b_Set_rank 10 = .ok (.aload_n 0, 1) := by decide +kernel
theorem d_Set_rank_11 : decode b_Set_rank 11 = .ok (.getfield 15, 3) := by decide +kernel
theorem d_Set_rank_14 : decode b_Set_rank 14 = .ok (.iload_n 2, 1) := by decide +kernel
theorem d_Set_rank_15 : decode b_Set_rank 15 = .ok (.iconst 0, 1) := by decide +kernel
theorem d_Set_rank_16 : decode b_Set_rank 16 = .ok (.bastore, 1) := by decide +kernel
theorem d_Set_rank_17 : decode b_Set_rank 17 = .ok (.iload_n 2, 1) := by decide +kernel
theorem d_Set_rank_18 : decode b_Set_rank 18 = .ok (.istore_n 3, 1) := by decide +kernel
theorem d_Set_rank_19 : decode b_Set_rank 19 = .ok (.iload_n 3, 1) := by decide +kernel
theorem d_Set_rank_20 : decode b_Set_rank 20 = .ok (.ifCond .le 39, 3) := by decide +kernel
theorem d_Set_rank_23 : decode b_Set_rank 23 = .ok (.aload_n 1, 1) := by decide +kernel
theorem d_Set_rank_24 : decode b_Set_rank 24 = .ok (.aload_n 0, 1) := by decide +kernel
theorem d_Set_rank_25 : decode b_Set_rank 25 = .ok (.getfield 9, 3) := by decide +kernel
theorem d_Set_rank_28 : decode b_Set_rank 28 = .ok (.iload_n 3, 1) := by decide +kernel
theorem d_Set_rank_29 : decode b_Set_rank 29 = .ok (.iconst 1, 1) := by decide +kernel
theorem d_Set_rank_30 : decode b_Set_rank 30 = .ok (.isub, 1) := by decide +kernel
theorem d_Set_rank_31 : decode b_Set_rank 31 = .ok (.iaload, 1) := by decide +kernel
theorem d_Set_rank_32 : decode b_Set_rank 32 = .ok (.iload_n 2, 1) := by decide +kernel
theorem d_Set_rank_33 : decode b_Set_rank 33 = .ok (.invokevirtual 31, 3) := by decide +kernel
theorem d_Set_rank_36 : decode b_Set_rank 36 = .ok (.ifCond .eq 23, 3) := by decide +kernel
theorem d_Set_rank_39 : decode b_Set_rank 39 = .ok (.aload_n 0, 1) := by decide +kernel
theorem d_Set_rank_40 : decode b_Set_rank 40 = .ok (.getfield 9, 3) := by decide +kernel
theorem d_Set_rank_43 : decode b_Set_rank 43 = .ok (.iload_n 3, 1) := by decide +kernel
theorem d_Set_rank_44 : decode b_Set_rank 44 = .ok (.aload_n 0, 1) := by decide +kernel
theorem d_Set_rank_45 : decode b_Set_rank 45 = .ok (.getfield 9, 3) := by decide +kernel
theorem d_Set_rank_48 : decode b_Set_rank 48 = .ok (.iload_n 3, 1) := by decide +kernel
theorem d_Set_rank_49 : decode b_Set_rank 49 = .ok (.iconst 1, 1) := by decide +kernel
theorem d_Set_rank_50 : decode b_Set_rank 50 = .ok (.isub, 1) := by decide +kernel
theorem d_Set_rank_51 : decode b_Set_rank 51 = .ok (.iaload, 1) := by decide +kernel
theorem d_Set_rank_52 : decode b_Set_rank 52 = .ok (.iastore, 1) := by decide +kernel
theorem d_Set_rank_53 : decode b_Set_rank 53 = .ok (.iinc 3 (-1), 3) := by decide +kernel
theorem d_Set_rank_56 : decode b_Set_rank 56 = .ok (.goto (-37), 3) := by decide +kernel
theorem d_Set_rank_59 : decode b_Set_rank 59 = .ok (.aload_n 0, 1) := by decide +kernel
theorem d_Set_rank_60 : decode b_Set_rank 60 = .ok (.getfield 9, 3) := by decide +kernel
theorem d_Set_rank_63 : decode b_Set_rank 63 = .ok (.iload_n 3, 1) := by decide +kernel
theorem d_Set_rank_64 : decode b_Set_rank 64 = .ok (.iload_n 2, 1) := by decide +kernel
theorem d_Set_rank_65 : decode b_Set_rank 65 = .ok (.iastore, 1) := by decide +kernel
theorem d_Set_rank_66 : decode b_Set_rank 66 = .ok (.iinc 2 1, 3) := by decide +kernel
theorem d_Set_rank_69 : decode b_Set_rank 69 = .ok (.goto (-67), 3) := by decide +kernel
theorem d_Set_rank_72 : decode b_Set_rank 72 = .ok (.return_, 1) := by decide +kernel
theorem d_Set_take_0 : decode b_Set_take 0 = .ok (.aload_n 0, 1) := by decide +kernel
theorem d_Set_take_1 : decode b_Set_take 1 = .ok (.getfield 9, 3) := by decide +kernel
theorem d_Set_take_4 : decode b_Set_take 4 = .ok (.iload_n 2, 1) := by decide +kernel
theorem d_Set_take_5 : decode b_Set_take 5 = .ok (.iaload, 1) := by decide +kernel
theorem d_Set_take_6 : decode b_Set_take 6 = .ok (.istore_n 3, 1) := by decide +kernel
theorem d_Set_take_7 : decode b_Set_take 7 = .ok (.aload_n 0, 1) := by decide +kernel
theorem d_Set_take_8 : decode b_Set_take 8 = .ok (.getfield 15, 3) := by decide +kernel
theorem d_Set_take_11 : decode b_Set_take 11 = .ok (.iload_n 3, 1) := by decide +kernel
theorem d_Set_take_12 : decode b_Set_take 12 = .ok (.iconst 1, 1) := by decide +kernel
theorem d_Set_take_13 : decode b_Set_take 13 = .ok (.bastore, 1) := by decide +kernel
theorem d_Set_take_14 : decode b_Set_take 14 = .ok (.aload_n 1, 1) := by decide +kernel
theorem d_Set_take_15 : decode b_Set_take 15 = .ok (.getfield 35, 3) := by decide +kernel
theorem d_Set_take_18 : decode b_Set_take 18 = .ok (.iload_n 3, 1) := by decide +kernel
theorem d_Set_take_19 : decode b_Set_take 19 = .ok (.iadd, 1) := by decide +kernel
theorem d_Set_take_20 : decode b_Set_take 20 = .ok (.ireturn, 1) := by decide +kernel
theorem d_Set_findSpans_0 : decode b_Set_findSpans 0 = .ok (.aload_n 0, 1) := by decide +kernel
theorem d_Set_findSpans_1 : decode b_Set_findSpans 1 = .ok (.iconst 0, 1) := by decide +kernel
theorem d_Set_findSpans_2 : decode b_Set_findSpans 2 = .ok (.putfield 38, 3) := by decide +kernel
theorem d_Set_findSpans_5 : decode b_Set_findSpans 5 = .ok (.iconst 0, 1) := by decide +kernel
theorem d_Set_findSpans_6 : decode b_Set_findSpans 6 = .ok (.istore_n 2, 1) := by decide +kernel
theorem d_Set_findSpans_7 : decode b_Set_findSpans 7 = .ok (.iconst 0, 1) := by decide +kernel
theorem d_Set_findSpans_8 : decode b_Set_findSpans 8 = .ok (.istore_n 3, 1) := by decide +kernel
theorem d_Set_findSpans_9 : decode b_Set_findSpans 9 = .ok (.iload_n 3, 1) := by decide +kernel
theorem d_Set_findSpans_10 : decode b_Set_findSpans 10 = .ok (.aload_n 1, 1) := by decide +kernel
theorem d_Set_findSpans_11 : decode b_Set_findSpans 11 = .ok (.getfield 25, 3) := by decide +kernel
theorem d_Set_findSpans_14 : decode b_Set_findSpans 14 = .ok (.if_icmp .ge 71, 3) := by decide +kernel
theorem d_Set_findSpans_17 : decode b_Set_findSpans 17 = .ok (.aload_n 0, 1) := by decide +kernel
theorem d_Set_findSpans_18 : decode b_Set_findSpans 18 = .ok (.getfield 15, 3) := by decide +kernel
theorem d_Set_findSpans_21 : decode b_Set_findSpans 21 = .ok (.iload_n 3, 1) := by decide +kernel
theorem d_Set_findSpans_22 : decode b_Set_findSpans 22 = .ok (.baload, 1) := by decide +kernel
theorem d_Set_findSpans_23 : decode b_Set_findSpans 23 = .ok (.ifCond .eq 49, 3) := by decide +kernel
theorem d_Set_findSpans_26 : decode b_Set_findSpans 26 = .ok (.iload_n 2, 1) := by decide +kernel
theorem d_Set_findSpans_27 : decode b_Set_findSpans 27 = .ok (.ifCond .ne 28, 3) := by decide +kernel
theorem d_Set_findSpans_30 : decode b_Set_findSpans 30 = .ok (.aload_n 0, 1) := by decide +kernel
theorem d_Set_findSpans_31 : decode b_Set_findSpans 31 = .ok (.getfield 19, 3) := by decide +kernel
theorem d_Set_findSpans_34 : decode b_Set_findSpans 34 = .ok (.aload_n 0, 1) := by decide +kernel
theorem d_Set_findSpans_35 : decode b_Set_findSpans 35 = .ok (.getfield 38, 3) := by decide +kernel
theorem d_Set_findSpans_38 : decode b_Set_findSpans 38 = .ok (.aload_n 1, 1) := by decide +kernel
theorem d_Set_findSpans_39 : decode b_Set_findSpans 39 = .ok (.getfield 35, 3) := by decide +kernel
theorem d_Set_findSpans_42 : decode b_Set_findSpans 42 = .ok (.iload_n 3, 1) := by decide +kernel
theorem d_Set_findSpans_43 : decode b_Set_findSpans 43 = .ok (.iadd, 1) := by decide +kernel
theorem d_Set_findSpans_44 : decode b_Set_findSpans 44 = .ok (.iastore, 1) := by decide +kernel
theorem d_Set_findSpans_45 : decode b_Set_findSpans 45 = .ok (.aload_n 0, 1) := by decide +kernel
theorem d_Set_findSpans_46 : decode b_Set_findSpans 46 = .ok (.dup, 1) := by decide +kernel
theorem d_Set_findSpans_47 : decode b_Set_findSpans 47 = .ok (.getfield 38, 3) := by decide +kernel
theorem d_Set_findSpans_50 : decode b_Set_findSpans 50 = .ok (.iconst 1, 1) := by decide +kernel
theorem d_Set_findSpans_51 : decode b_Set_findSpans 51 = .ok (.iadd, 1) := by decide +kernel
theorem d_Set_findSpans_52 : decode b_Set_findSpans 52 = .ok (.putfield 38, 3) := by decide +kernel
theorem d_Set_findSpans_55 : decode b_Set_findSpans 55 = .ok (.aload_n 0, 1) := by decide +kernel
theorem d_Set_findSpans_56 : decode b_Set_findSpans 56 = .ok (.getfield 22, 3) := by decide +kernel
theorem d_Set_findSpans_59 : decode b_Set_findSpans 59 = .ok (.aload_n 0, 1) := by decide +kernel
theorem d_Set_findSpans_60 : decode b_Set_findSpans 60 = .ok (.getfield 38, 3) := by decide +kernel
theorem d_Set_findSpans_63 : decode b_Set_findSpans 63 = .ok (.iconst 1, 1) := by decide +kernel
theorem d_Set_findSpans_64 : decode b_Set_findSpans 64 = .ok (.isub, 1) := by decide +kernel
theorem d_Set_findSpans_65 : decode b_Set_findSpans 65 = .ok (.aload_n 1, 1) := by decide +kernel
theorem d_Set_findSpans_66 : decode b_Set_findSpans 66 = .ok (.getfield 35, 3) := by decide +kernel
theorem d_Set_findSpans_69 : decode b_Set_findSpans 69 = .ok (.iload_n 3, 1) := by decide +kernel
theorem d_Set_findSpans_70 : decode b_Set_findSpans 70 = .ok (.iadd, 1) := by decide +kernel
theorem d_Set_findSpans_71 : decode b_Set_findSpans 71 = .ok (.iastore, 1) := by decide +kernel
theorem d_Set_findSpans_72 : decode b_Set_findSpans 72 = .ok (.aload_n 0, 1) := by decide +kernel
theorem d_Set_findSpans_73 : decode b_Set_findSpans 73 = .ok (.getfield 15, 3) := by decide +kernel
theorem d_Set_findSpans_76 : decode b_Set_findSpans 76 = .ok (.iload_n 3, 1) := by decide +kernel
theorem d_Set_findSpans_77 : decode b_Set_findSpans 77 = .ok (.baload, 1) := by decide +kernel
theorem d_Set_findSpans_78 : decode b_Set_findSpans 78 = .ok (.istore_n 2, 1) := by decide +kernel
theorem d_Set_findSpans_79 : decode b_Set_findSpans 79 = .ok (.iinc 3 1, 3) := by decide +kernel
theorem d_Set_findSpans_82 : decode b_Set_findSpans 82 = .ok (.goto (-73), 3) := by decide +kernel
theorem d_Set_findSpans_85 : decode b_Set_findSpans 85 = .ok (.return_, 1) := by decide +kernel
