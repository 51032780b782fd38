theorem d_Row_init_0 : decode b_Row_init 0 = .ok (.aload_n 0, 1) := by decide +kernel
theorem d_Row_init_1 : decode b_Row_init 1 = .ok (.invokespecial 3, 3) := by decide +kernel
theorem d_Row_init_4 : decode b_Row_init 4 = .ok (.aload_n 0, 1) := by decide +kernel
theorem d_Row_init_5 : decode b_Row_init 5 = .ok (.sipush 192, 3) := by decide +kernel
theorem d_Row_init_8 : decode b_Row_init 8 = .ok (.newarray .long, 2) := by decide +kernel
theorem d_Row_init_10 : decode b_Row_init 10 = .ok (.putfield 11, 3) := by decide +kernel
theorem d_Row_init_13 : decode b_Row_init 13 = .ok (.return_, 1) := by decide +kernel
theorem d_Row_open_0 : decode b_Row_open 0 = .ok (.aload_n 0, 1) := by decide +kernel
theorem d_Row_open_1 : decode b_Row_open 1 = .ok (.iload_n 1, 1) := by decide +kernel
theorem d_Row_open_2 : decode b_Row_open 2 = .ok (.putfield 17, 3) := by decide +kernel
theorem d_Row_open_5 : decode b_Row_open 5 = .ok (.aload_n 0, 1) := by decide +kernel
theorem d_Row_open_6 : decode b_Row_open 6 = .ok (.iload_n 2, 1) := by decide +kernel
theorem d_Row_open_7 : decode b_Row_open 7 = .ok (.putfield 21, 3) := by decide +kernel
theorem d_Row_open_10 : decode b_Row_open 10 = .ok (.iconst 0, 1) := by decide +kernel
theorem d_Row_open_11 : decode b_Row_open 11 = .ok (.istore_n 3, 1) := by decide +kernel
theorem d_Row_open_12 : decode b_Row_open 12 = .ok (.iload_n 3, 1) := by decide +kernel
theorem d_Row_open_13 : decode b_Row_open 13 = .ok (.aload_n 0, 1) := by decide +kernel
theorem d_Row_open_14 : decode b_Row_open 14 = .ok (.getfield 11, 3) := by decide +kernel
theorem d_Row_open_17 : decode b_Row_open 17 = .ok (.arraylength, 1) := by decide +kernel
theorem d_Row_open_18 : decode b_Row_open 18 = .ok (.if_icmp .ge 16, 3) := by decide +kernel
theorem d_Row_open_21 : decode b_Row_open 21 = .ok (.aload_n 0, 1) := by decide +kernel
theorem d_Row_open_22 : decode b_Row_open 22 = .ok (.getfield 11, 3) := by decide +kernel
theorem d_Row_open_25 : decode b_Row_open 25 = .ok (.iload_n 3, 1) := by decide +kernel
theorem d_Row_open_26 : decode b_Row_open 26 = .ok (.lconst 0, 1) := by decide +kernel
theorem d_Row_open_27 : decode b_Row_open 27 = .ok (.lastore, 1) := by decide +kernel
theorem d_Row_open_28 : decode b_Row_open 28 = .ok (.iinc 3 1, 3) := by decide +kernel
theorem d_Row_open_31 : decode b_Row_open 31 = .ok (.goto (-19), 3) := by decide +kernel
theorem d_Row_open_34 : decode b_Row_open 34 = .ok (.return_, 1) := by decide +kernel
theorem d_Row_last_0 : decode b_Row_last 0 = .ok (.aload_n 0, 1) := by decide +kernel
theorem d_Row_last_1 : decode b_Row_last 1 = .ok (.getfield 17, 3) := by decide +kernel
theorem d_Row_last_4 : decode b_Row_last 4 = .ok (.aload_n 0, 1) := by decide +kernel
theorem d_Row_last_5 : decode b_Row_last 5 = .ok (.getfield 21, 3) := by decide +kernel
theorem d_Row_last_8 : decode b_Row_last 8 = .ok (.iadd, 1) := by decide +kernel
theorem d_Row_last_9 : decode b_Row_last 9 = .ok (.iconst 1, 1) := by decide +kernel
theorem d_Row_last_10 : decode b_Row_last 10 = .ok (.isub, 1) := by decide +kernel
theorem d_Row_last_11 : decode b_Row_last 11 = .ok (.ireturn, 1) := by decide +kernel
theorem d_Row_has_0 : decode b_Row_has 0 = .ok (.iload_n 1, 1) := by decide +kernel
theorem d_Row_has_1 : decode b_Row_has 1 = .ok (.aload_n 0, 1) := by decide +kernel
theorem d_Row_has_2 : decode b_Row_has 2 = .ok (.getfield 17, 3) := by decide +kernel
theorem d_Row_has_5 : decode b_Row_has 5 = .ok (.if_icmp .lt 15, 3) := by decide +kernel
theorem d_Row_has_8 : decode b_Row_has 8 = .ok (.iload_n 1, 1) := by decide +kernel
theorem d_Row_has_9 : decode b_Row_has 9 = .ok (.aload_n 0, 1) := by decide +kernel
theorem d_Row_has_10 : decode b_Row_has 10 = .ok (.invokevirtual 24, 3) := by decide +kernel
theorem d_Row_has_13 : decode b_Row_has 13 = .ok (.if_icmp .gt 7, 3) := by decide +kernel
theorem d_Row_has_16 : decode b_Row_has 16 = .ok (.iconst 1, 1) := by decide +kernel
theorem d_Row_has_17 : decode b_Row_has 17 = .ok (.goto 4, 3) := by decide +kernel
theorem d_Row_has_20 : decode b_Row_has 20 = .ok (.iconst 0, 1) := by decide +kernel
theorem d_Row_has_21 : decode b_Row_has 21 = .ok (.ireturn, 1) := by decide +kernel
theorem d_Row_read_0 : decode b_Row_read 0 = .ok (.aload_n 2, 1) := by decide +kernel
theorem d_Row_read_1 : decode b_Row_read 1 = .ok (.lconst 0, 1) := by decide +kernel
theorem d_Row_read_2 : decode b_Row_read 2 = .ok (.invokevirtual 28, 3) := by decide +kernel
theorem d_Row_read_5 : decode b_Row_read 5 = .ok (.aload_n 0, 1) := by decide +kernel
theorem d_Row_read_6 : decode b_Row_read 6 = .ok (.iload_n 1, 1) := by decide +kernel
theorem d_Row_read_7 : decode b_Row_read 7 = .ok (.invokevirtual 32, 3) := by decide +kernel
theorem d_Row_read_10 : decode b_Row_read 10 = .ok (.ifCond .eq 43, 3) := by decide +kernel
theorem d_Row_read_13 : decode b_Row_read 13 = .ok (.iload_n 1, 1) := by decide +kernel
theorem d_Row_read_14 : decode b_Row_read 14 = .ok (.aload_n 0, 1) := by decide +kernel
theorem d_Row_read_15 : decode b_Row_read 15 = .ok (.getfield 17, 3) := by decide +kernel
theorem d_Row_read_18 : decode b_Row_read 18 = .ok (.isub, 1) := by decide +kernel
theorem d_Row_read_19 : decode b_Row_read 19 = .ok (.iconst 4, 1) := by decide +kernel
theorem d_Row_read_20 : decode b_Row_read 20 = .ok (.imul, 1) := by decide +kernel
theorem d_Row_read_21 : decode b_Row_read 21 = .ok (.istore_n 3, 1) := by decide +kernel
theorem d_Row_read_22 : decode b_Row_read 22 = .ok (.iconst 0, 1) := by decide +kernel
theorem d_Row_read_23 : decode b_Row_read 23 = .ok (.istore 4, 2) := by decide +kernel
theorem d_Row_read_25 : decode b_Row_read 25 = .ok (.iload 4, 2) := by decide +kernel
theorem d_Row_read_27 : decode b_Row_read 27 = .ok (.iconst 4, 1) := by decide +kernel
theorem d_Row_read_28 : decode b_Row_read 28 = .ok (.if_icmp .ge 25, 3) := by decide +kernel
theorem d_Row_read_31 : decode b_Row_read 31 = .ok (.aload_n 2, 1) := by decide +kernel
theorem d_Row_read_32 : decode b_Row_read 32 = .ok (.getfield 36, 3) := by decide +kernel
theorem d_Row_read_35 : decode b_Row_read 35 = .ok (.iload 4, 2) := by decide +kernel
theorem d_Row_read_37 : decode b_Row_read 37 = .ok (.aload_n 0, 1) := by decide +kernel
theorem d_Row_read_38 : decode b_Row_read 38 = .ok (.getfield 11, 3) := by decide +kernel
theorem d_Row_read_41 : decode b_Row_read 41 = .ok (.iload_n 3, 1) := by decide +kernel
theorem d_Row_read_42 : decode b_Row_read 42 = .ok (.iload 4, 2) := by decide +kernel
theorem d_Row_read_44 : decode b_Row_read 44 = .ok (.iadd, 1) := by decide +kernel
theorem d_Row_read_45 : decode b_Row_read 45 = .ok (.laload, 1) := by decide +kernel
theorem d_Row_read_46 : decode b_Row_read 46 = .ok (.lastore, 1) := by decide +kernel
theorem d_Row_read_47 : decode b_Row_read 47 = .ok (.iinc 4 1, 3) := by decide +kernel
theorem d_Row_read_50 : decode b_Row_read 50 = .ok (.goto (-25), 3) := by decide +kernel
theorem d_Row_read_53 : decode b_Row_read 53 = .ok (.return_, 1) := by decide +kernel
theorem d_Row_write_0 : decode b_Row_write 0 = .ok (.aload_n 0, 1) := by decide +kernel
theorem d_Row_write_1 : decode b_Row_write 1 = .ok (.iload_n 1, 1) := by decide +kernel
theorem d_Row_write_2 : decode b_Row_write 2 = .ok (.invokevirtual 32, 3) := by decide +kernel
theorem d_Row_write_5 : decode b_Row_write 5 = .ok (.ifCond .eq 43, 3) := by decide +kernel
theorem d_Row_write_8 : decode b_Row_write 8 = .ok (.iload_n 1, 1) := by decide +kernel
theorem d_Row_write_9 : decode b_Row_write 9 = .ok (.aload_n 0, 1) := by decide +kernel
theorem d_Row_write_10 : decode b_Row_write 10 = .ok (.getfield 17, 3) := by decide +kernel
theorem d_Row_write_13 : decode b_Row_write 13 = .ok (.isub, 1) := by decide +kernel
theorem d_Row_write_14 : decode b_Row_write 14 = .ok (.iconst 4, 1) := by decide +kernel
theorem d_Row_write_15 : decode b_Row_write 15 = .ok (.imul, 1) := by decide +kernel
theorem d_Row_write_16 : decode b_Row_write 16 = .ok (.istore_n 3, 1) := by decide +kernel
theorem d_Row_write_17 : decode b_Row_write 17 = .ok (.iconst 0, 1) := by decide +kernel
theorem d_Row_write_18 : decode b_Row_write 18 = .ok (.istore 4, 2) := by decide +kernel
theorem d_Row_write_20 : decode b_Row_write 20 = .ok (.iload 4, 2) := by decide +kernel
theorem d_Row_write_22 : decode b_Row_write 22 = .ok (.iconst 4, 1) := by decide +kernel
theorem d_Row_write_23 : decode b_Row_write 23 = .ok (.if_icmp .ge 25, 3) := by decide +kernel
theorem d_Row_write_26 : decode b_Row_write 26 = .ok (.aload_n 0, 1) := by decide +kernel
theorem d_Row_write_27 : decode b_Row_write 27 = .ok (.getfield 11, 3) := by decide +kernel
theorem d_Row_write_30 : decode b_Row_write 30 = .ok (.iload_n 3, 1) := by decide +kernel
theorem d_Row_write_31 : decode b_Row_write 31 = .ok (.iload 4, 2) := by decide +kernel
theorem d_Row_write_33 : decode b_Row_write 33 = .ok (.iadd, 1) := by decide +kernel
theorem d_Row_write_34 : decode b_Row_write 34 = .ok (.aload_n 2, 1) := by decide +kernel
theorem d_Row_write_35 : decode b_Row_write 35 = .ok (.getfield 36, 3) := by decide +kernel
theorem d_Row_write_38 : decode b_Row_write 38 = .ok (.iload 4, 2) := by decide +kernel
theorem d_Row_write_40 : decode b_Row_write 40 = .ok (.laload, 1) := by decide +kernel
theorem d_Row_write_41 : decode b_Row_write 41 = .ok (.lastore, 1) := by decide +kernel
theorem d_Row_write_42 : decode b_Row_write 42 = .ok (.iinc 4 1, 3) := by decide +kernel
theorem d_Row_write_45 : decode b_Row_write 45 = .ok (.goto (-25), 3) := by decide +kernel
theorem d_Row_write_48 : decode b_Row_write 48 = .ok (.return_, 1) := by decide +kernel
theorem d_Row_isLess_0 : decode b_Row_isLess 0 = .ok (.iconst 3, 1) := by decide +kernel
theorem d_Row_isLess_1 : decode b_Row_isLess 1 = .ok (.istore_n 3, 1) := by decide +kernel
theorem d_Row_isLess_2 : decode b_Row_isLess 2 = .ok (.iload_n 3, 1) := by decide +kernel
theorem d_Row_isLess_3 : decode b_Row_isLess 3 = .ok (.ifCond .lt 55, 3) := by decide +kernel
theorem d_Row_isLess_6 : decode b_Row_isLess 6 = .ok (.aload_n 0, 1) := by decide +kernel
theorem d_Row_isLess_7 : decode b_Row_isLess 7 = .ok (.getfield 11, 3) := by decide +kernel
theorem d_Row_isLess_10 : decode b_Row_isLess 10 = .ok (.iload_n 1, 1) := by decide +kernel
theorem d_Row_isLess_11 : decode b_Row_isLess 11 = .ok (.iconst 4, 1) := by decide +kernel
theorem d_Row_isLess_12 : decode b_Row_isLess 12 = .ok (.imul, 1) := by decide +kernel
theorem d_Row_isLess_13 : decode b_Row_isLess 13 = .ok (.iload_n 3, 1) := by decide +kernel
theorem d_Row_isLess_14 : decode b_Row_isLess 14 = .ok (.iadd, 1) := by decide +kernel
theorem d_Row_isLess_15 : decode b_Row_isLess 15 = .ok (.laload, 1) := by decide +kernel
theorem d_Row_isLess_16 : decode b_Row_isLess 16 = .ok (.lstore 4, 2) := by decide +kernel
theorem d_Row_isLess_18 : decode b_Row_isLess 18 = .ok (.aload_n 0, 1) := by decide +kernel
theorem d_Row_isLess_19 : decode b_Row_isLess 19 = .ok (.getfield 11, 3) := by decide +kernel
theorem d_Row_isLess_22 : decode b_Row_isLess 22 = .ok (.iload_n 2, 1) := by decide +kernel
theorem d_Row_isLess_23 : decode b_Row_isLess 23 = .ok (.iconst 4, 1) := by decide +kernel
theorem d_Row_isLess_24 : decode b_Row_isLess 24 = .ok (.imul, 1) := by decide +kernel
theorem d_Row_isLess_25 : decode b_Row_isLess 25 = .ok (.iload_n 3, 1) := by decide +kernel
theorem d_Row_isLess_26 : decode b_Row_isLess 26 = .ok (.iadd, 1) := by decide +kernel
theorem d_Row_isLess_27 : decode b_Row_isLess 27 = .ok (.laload, 1) := by decide +kernel
theorem d_Row_isLess_28 : decode b_Row_isLess 28 = .ok (.lstore 6, 2) := by decide +kernel
theorem d_Row_isLess_30 : decode b_Row_isLess 30 = .ok (.lload 4, 2) := by decide +kernel
theorem d_Row_isLess_32 : decode b_Row_isLess 32 = .ok (.lload 6, 2) := by decide +kernel
theorem d_Row_isLess_34 : decode b_Row_isLess 34 = .ok (.lcmp, 1) := by decide +kernel
theorem d_Row_isLess_35 : decode b_Row_isLess 35 = .ok (.ifCond .eq 17, 3) := by decide +kernel
theorem d_Row_isLess_38 : decode b_Row_isLess 38 = .ok (.lload 4, 2) := by decide +kernel
theorem d_Row_isLess_40 : decode b_Row_isLess 40 = .ok (.lload 6, 2) := by decide +kernel
theorem d_Row_isLess_42 : decode b_Row_isLess 42 = .ok (.lcmp, 1) := by decide +kernel
theorem d_Row_isLess_43 : decode b_Row_isLess 43 = .ok (.ifCond .ge 7, 3) := by decide +kernel
theorem d_Row_isLess_46 : decode b_Row_isLess 46 = .ok (.iconst 1, 1) := by decide +kernel
theorem d_Row_isLess_47 : decode b_Row_isLess 47 = .ok (.goto 4, 3) := by decide +kernel
theorem d_Row_isLess_50 : decode b_Row_isLess 50 = .ok (.iconst 0, 1) := by decide +kernel
theorem d_Row_isLess_51 : decode b_Row_isLess 51 = .ok (.ireturn, 1) := by decide +kernel
theorem d_Row_isLess_52 : decode b_Row_isLess 52 = .ok (.iinc 3 (-1), 3) := by decide +kernel
theorem d_Row_isLess_55 : decode b_Row_isLess 55 = .ok (.goto (-53), 3) := by decide +kernel
theorem d_Row_isLess_58 : decode b_Row_isLess 58 = .ok (.iconst 0, 1) := by decide +kernel
theorem d_Row_isLess_59 : decode b_Row_isLess 59 = .ok (.ireturn, 1) := by decide +kernel
