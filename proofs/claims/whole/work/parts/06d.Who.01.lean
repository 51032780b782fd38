theorem d_Who_init_0 : decode b_Who_init 0 = .ok (.aload_n 0, 1) := by decide +kernel
theorem d_Who_init_1 : decode b_Who_init 1 = .ok (.invokespecial 1, 3) := by decide +kernel
theorem d_Who_init_4 : decode b_Who_init 4 = .ok (.aload_n 0, 1) := by decide +kernel
theorem d_Who_init_5 : decode b_Who_init 5 = .ok (.bipush 8, 2) := by decide +kernel
theorem d_Who_init_7 : decode b_Who_init 7 = .ok (.newarray .long, 2) := by decide +kernel
theorem d_Who_init_9 : decode b_Who_init 9 = .ok (.putfield 9, 3) := by decide +kernel
theorem d_Who_init_12 : decode b_Who_init 12 = .ok (.return_, 1) := by decide +kernel
theorem d_Who_become_0 : decode b_Who_become 0 = .ok (.lload_n 1, 1) := by decide +kernel
theorem d_Who_become_1 : decode b_Who_become 1 = .ok (.lstore_n 3, 1) := by decide +kernel
theorem d_Who_become_2 : decode b_Who_become 2 = .ok (.iconst 0, 1) := by decide +kernel
theorem d_Who_become_3 : decode b_Who_become 3 = .ok (.istore 5, 2) := by decide +kernel
theorem d_Who_become_5 : decode b_Who_become 5 = .ok (.iload 5, 2) := by decide +kernel
theorem d_Who_become_7 : decode b_Who_become 7 = .ok (.bipush 8, 2) := by decide +kernel
theorem d_Who_become_9 : decode b_Who_become 9 = .ok (.if_icmp .ge 27, 3) := by decide +kernel
theorem d_Who_become_12 : decode b_Who_become 12 = .ok (.aload_n 0, 1) := by decide +kernel
theorem d_Who_become_13 : decode b_Who_become 13 = .ok (.getfield 9, 3) := by decide +kernel
theorem d_Who_become_16 : decode b_Who_become 16 = .ok (.iload 5, 2) := by decide +kernel
theorem d_Who_become_18 : decode b_Who_become 18 = .ok (.lload_n 3, 1) := by decide +kernel
theorem d_Who_become_19 : decode b_Who_become 19 = .ok (.ldc2_w 13, 3) := by decide +kernel
theorem d_Who_become_22 : decode b_Who_become 22 = .ok (.lrem, 1) := by decide +kernel
theorem d_Who_become_23 : decode b_Who_become 23 = .ok (.lastore, 1) := by decide +kernel
theorem d_Who_become_24 : decode b_Who_become 24 = .ok (.lload_n 3, 1) := by decide +kernel
theorem d_Who_become_25 : decode b_Who_become 25 = .ok (.ldc2_w 13, 3) := by decide +kernel
theorem d_Who_become_28 : decode b_Who_become 28 = .ok (.ldiv, 1) := by decide +kernel
theorem d_Who_become_29 : decode b_Who_become 29 = .ok (.lstore_n 3, 1) := by decide +kernel
theorem d_Who_become_30 : decode b_Who_become 30 = .ok (.iinc 5 1, 3) := by decide +kernel
theorem d_Who_become_33 : decode b_Who_become 33 = .ok (.goto (-28), 3) := by decide +kernel
theorem d_Who_become_36 : decode b_Who_become 36 = .ok (.return_, 1) := by decide +kernel
theorem d_Who_increase_0 : decode b_Who_increase 0 = .ok (.lconst 0, 1) := by decide +kernel
theorem d_Who_increase_1 : decode b_Who_increase 1 = .ok (.lstore_n 2, 1) := by decide +kernel
theorem d_Who_increase_2 : decode b_Who_increase 2 = .ok (.iconst 0, 1) := by decide +kernel
theorem d_Who_increase_3 : decode b_Who_increase 3 = .ok (.istore 4, 2) := by decide +kernel
theorem d_Who_increase_5 : decode b_Who_increase 5 = .ok (.iload 4, 2) := by decide +kernel
theorem d_Who_increase_7 : decode b_Who_increase 7 = .ok (.bipush 8, 2) := by decide +kernel
theorem d_Who_increase_9 : decode b_Who_increase 9 = .ok (.if_icmp .ge 48, 3) := by decide +kernel
theorem d_Who_increase_12 : decode b_Who_increase 12 = .ok (.aload_n 0, 1) := by decide +kernel
theorem d_Who_increase_13 : decode b_Who_increase 13 = .ok (.getfield 9, 3) := by decide +kernel
theorem d_Who_increase_16 : decode b_Who_increase 16 = .ok (.iload 4, 2) := by decide +kernel
theorem d_Who_increase_18 : decode b_Who_increase 18 = .ok (.laload, 1) := by decide +kernel
theorem d_Who_increase_19 : decode b_Who_increase 19 = .ok (.aload_n 1, 1) := by decide +kernel
theorem d_Who_increase_20 : decode b_Who_increase 20 = .ok (.getfield 9, 3) := by decide +kernel
theorem d_Who_increase_23 : decode b_Who_increase 23 = .ok (.iload 4, 2) := by decide +kernel
theorem d_Who_increase_25 : decode b_Who_increase 25 = .ok (.laload, 1) := by decide +kernel
theorem d_Who_increase_26 : decode b_Who_increase 26 = .ok (.ladd, 1) := by decide +kernel
theorem d_Who_increase_27 : decode b_Who_increase 27 = .ok (.lload_n 2, 1) := by decide +kernel
theorem d_Who_increase_28 : decode b_Who_increase 28 = .ok (.ladd, 1) := by decide +kernel
theorem d_Who_increase_29 : decode b_Who_increase 29 = .ok (.lstore 5, 2) := by decide +kernel
theorem d_Who_increase_31 : decode b_Who_increase 31 = .ok (.aload_n 0, 1) := by decide +kernel
theorem d_Who_increase_32 : decode b_Who_increase 32 = .ok (.getfield 9, 3) := by decide +kernel
theorem d_Who_increase_35 : decode b_Who_increase 35 = .ok (.iload 4, 2) := by decide +kernel
theorem d_Who_increase_37 : decode b_Who_increase 37 = .ok (.lload 5, 2) := by decide +kernel
theorem d_Who_increase_39 : decode b_Who_increase 39 = .ok (.ldc2_w 13, 3) := by decide +kernel
theorem d_Who_increase_42 : decode b_Who_increase 42 = .ok (.lrem, 1) := by decide +kernel
theorem d_Who_increase_43 : decode b_Who_increase 43 = .ok (.lastore, 1) := by decide +kernel
theorem d_Who_increase_44 : decode b_Who_increase 44 = .ok (.lload 5, 2) := by decide +kernel
theorem d_Who_increase_46 : decode b_Who_increase 46 = .ok (.ldc2_w 13, 3) := by decide +kernel
theorem d_Who_increase_49 : decode b_Who_increase 49 = .ok (.ldiv, 1) := by decide +kernel
theorem d_Who_increase_50 : decode b_Who_increase 50 = .ok (.lstore_n 2, 1) := by decide +kernel
theorem d_Who_increase_51 : decode b_Who_increase 51 = .ok (.iinc 4 1, 3) := by decide +kernel
theorem d_Who_increase_54 : decode b_Who_increase 54 = .ok (.goto (-49), 3) := by decide +kernel
theorem d_Who_increase_57 : decode b_Who_increase 57 = .ok (.return_, 1) := by decide +kernel
theorem d_Who_becomeScaled_0 : decode b_Who_becomeScaled 0 = .ok (.lconst 0, 1) := by decide +kernel
theorem d_Who_becomeScaled_1 : decode b_Who_becomeScaled 1 = .ok (.lstore 4, 2) := by decide +kernel
theorem d_Who_becomeScaled_3 : decode b_Who_becomeScaled 3 = .ok (.iconst 0, 1) := by decide +kernel
theorem d_Who_becomeScaled_4 : decode b_Who_becomeScaled 4 = .ok (.istore 6, 2) := by decide +kernel
theorem d_Who_becomeScaled_6 : decode b_Who_becomeScaled 6 = .ok (.iload 6, 2) := by decide +kernel
theorem d_Who_becomeScaled_8 : decode b_Who_becomeScaled 8 = .ok (.bipush 8, 2) := by decide +kernel
theorem d_Who_becomeScaled_10 : decode b_Who_becomeScaled 10 = .ok (.if_icmp .ge 44, 3) := by decide +kernel
theorem d_Who_becomeScaled_13 : decode b_Who_becomeScaled 13 = .ok (.aload_n 1, 1) := by decide +kernel
theorem d_Who_becomeScaled_14 : decode b_Who_becomeScaled 14 = .ok (.getfield 9, 3) := by decide +kernel
theorem d_Who_becomeScaled_17 : decode b_Who_becomeScaled 17 = .ok (.iload 6, 2) := by decide +kernel
theorem d_Who_becomeScaled_19 : decode b_Who_becomeScaled 19 = .ok (.laload, 1) := by decide +kernel
theorem d_Who_becomeScaled_20 : decode b_Who_becomeScaled 20 = .ok (.lload_n 2, 1) := by decide +kernel
theorem d_Who_becomeScaled_21 : decode b_Who_becomeScaled 21 = .ok (.lmul, 1) := by decide +kernel
theorem d_Who_becomeScaled_22 : decode b_Who_becomeScaled 22 = .ok (.lload 4, 2) := by decide +kernel
theorem d_Who_becomeScaled_24 : decode b_Who_becomeScaled 24 = .ok (.ladd, 1) := by decide +kernel
theorem d_Who_becomeScaled_25 : decode b_Who_becomeScaled 25 = .ok (.lstore 7, 2) := by decide +kernel
theorem d_Who_becomeScaled_27 : decode b_Who_becomeScaled 27 = .ok (.aload_n 0, 1) := by decide +kernel
theorem d_Who_becomeScaled_28 : decode b_Who_becomeScaled 28 = .ok (.getfield 9, 3) := by decide +kernel
theorem d_Who_becomeScaled_31 : decode b_Who_becomeScaled 31 = .ok (.iload 6, 2) := by decide +kernel
theorem d_Who_becomeScaled_33 : decode b_Who_becomeScaled 33 = .ok (.lload 7, 2) := by decide +kernel
theorem d_Who_becomeScaled_35 : decode b_Who_becomeScaled 35 = .ok (.ldc2_w 13, 3) := by decide +kernel
theorem d_Who_becomeScaled_38 : decode b_Who_becomeScaled 38 = .ok (.lrem, 1) := by decide +kernel
theorem d_Who_becomeScaled_39 : decode b_Who_becomeScaled 39 = .ok (.lastore, 1) := by decide +kernel
theorem d_Who_becomeScaled_40 : decode b_Who_becomeScaled 40 = .ok (.lload 7, 2) := by decide +kernel
theorem d_Who_becomeScaled_42 : decode b_Who_becomeScaled 42 = .ok (.ldc2_w 13, 3) := by decide +kernel
theorem d_Who_becomeScaled_45 : decode b_Who_becomeScaled 45 = .ok (.ldiv, 1) := by decide +kernel
theorem d_Who_becomeScaled_46 : decode b_Who_becomeScaled 46 = .ok (.lstore 4, 2) := by decide +kernel
theorem d_Who_becomeScaled_48 : decode b_Who_becomeScaled 48 = .ok (.iinc 6 1, 3) := by decide +kernel
theorem d_Who_becomeScaled_51 : decode b_Who_becomeScaled 51 = .ok (.goto (-45), 3) := by decide +kernel
theorem d_Who_becomeScaled_54 : decode b_Who_becomeScaled 54 = .ok (.return_, 1) := by decide +kernel
theorem d_Who_becomeProduct_0 : decode b_Who_becomeProduct 0 = .ok (.aload_n 0, 1) := by decide +kernel
theorem d_Who_becomeProduct_1 : decode b_Who_becomeProduct 1 = .ok (.lconst 0, 1) := by decide +kernel
theorem d_Who_becomeProduct_2 : decode b_Who_becomeProduct 2 = .ok (.invokevirtual 15, 3) := by decide +kernel
theorem d_Who_becomeProduct_5 : decode b_Who_becomeProduct 5 = .ok (.iconst 0, 1) := by decide +kernel
theorem d_Who_becomeProduct_6 : decode b_Who_becomeProduct 6 = .ok (.istore_n 3, 1) := by decide +kernel
theorem d_Who_becomeProduct_7 : decode b_Who_becomeProduct 7 = .ok (.iload_n 3, 1) := by decide +kernel
theorem d_Who_becomeProduct_8 : decode b_Who_becomeProduct 8 = .ok (.iconst 4, 1) := by decide +kernel
theorem d_Who_becomeProduct_9 : decode b_Who_becomeProduct 9 = .ok (.if_icmp .ge 89, 3) := by decide +kernel
theorem d_Who_becomeProduct_12 : decode b_Who_becomeProduct 12 = .ok (.lconst 0, 1) := by decide +kernel
theorem d_Who_becomeProduct_13 : decode b_Who_becomeProduct 13 = .ok (.lstore 4, 2) := by decide +kernel
theorem d_Who_becomeProduct_15 : decode b_Who_becomeProduct 15 = .ok (.iconst 0, 1) := by decide +kernel
theorem d_Who_becomeProduct_16 : decode b_Who_becomeProduct 16 = .ok (.istore 6, 2) := by decide +kernel
theorem d_Who_becomeProduct_18 : decode b_Who_becomeProduct 18 = .ok (.iload 6, 2) := by decide +kernel
theorem d_Who_becomeProduct_20 : decode b_Who_becomeProduct 20 = .ok (.iconst 4, 1) := by decide +kernel
theorem d_Who_becomeProduct_21 : decode b_Who_becomeProduct 21 = .ok (.if_icmp .ge 61, 3) := by decide +kernel
theorem d_Who_becomeProduct_24 : decode b_Who_becomeProduct 24 = .ok (.aload_n 1, 1) := by decide +kernel
theorem d_Who_becomeProduct_25 : decode b_Who_becomeProduct 25 = .ok (.getfield 9, 3) := by decide +kernel
theorem d_Who_becomeProduct_28 : decode b_Who_becomeProduct 28 = .ok (.iload_n 3, 1) := by decide +kernel
theorem d_Who_becomeProduct_29 : decode b_Who_becomeProduct 29 = .ok (.laload, 1) := by decide +kernel
theorem d_Who_becomeProduct_30 : decode b_Who_becomeProduct 30 = .ok (.aload_n 2, 1) := by decide +kernel
theorem d_Who_becomeProduct_31 : decode b_Who_becomeProduct 31 = .ok (.getfield 9, 3) := by decide +kernel
theorem d_Who_becomeProduct_34 : decode b_Who_becomeProduct 34 = .ok (.iload 6, 2) := by decide +kernel
theorem d_Who_becomeProduct_36 : decode b_Who_becomeProduct 36 = .ok (.laload, 1) := by decide +kernel
theorem d_Who_becomeProduct_37 : decode b_Who_becomeProduct 37 = .ok (.lmul, 1) := by decide +kernel
theorem d_Who_becomeProduct_38 : decode b_Who_becomeProduct 38 = .ok (.aload_n 0, 1) := by decide +kernel
theorem d_Who_becomeProduct_39 : decode b_Who_becomeProduct 39 = .ok (.getfield 9, 3) := by decide +kernel
theorem d_Who_becomeProduct_42 : decode b_Who_becomeProduct 42 = .ok (.iload_n 3, 1) := by decide +kernel
theorem d_Who_becomeProduct_43 : decode b_Who_becomeProduct 43 = .ok (.iload 6, 2) := by decide +kernel
theorem d_Who_becomeProduct_45 : decode b_Who_becomeProduct 45 = .ok (.iadd, 1) := by decide +kernel
theorem d_Who_becomeProduct_46 : decode b_Who_becomeProduct 46 = .ok (.laload, 1) := by decide +kernel
theorem d_Who_becomeProduct_47 : decode b_Who_becomeProduct 47 = .ok (.ladd, 1) := by decide +kernel
theorem d_Who_becomeProduct_48 : decode b_Who_becomeProduct 48 = .ok (.lload 4, 2) := by decide +kernel
theorem d_Who_becomeProduct_50 : decode b_Who_becomeProduct 50 = .ok (.ladd, 1) := by decide +kernel
theorem d_Who_becomeProduct_51 : decode b_Who_becomeProduct 51 = .ok (.lstore 7, 2) := by decide +kernel
theorem d_Who_becomeProduct_53 : decode b_Who_becomeProduct 53 = .ok (.aload_n 0, 1) := by decide +kernel
theorem d_Who_becomeProduct_54 : decode b_Who_becomeProduct 54 = .ok (.getfield 9, 3) := by decide +kernel
theorem d_Who_becomeProduct_57 : decode b_Who_becomeProduct 57 = .ok (.iload_n 3, 1) := by decide +kernel
theorem d_Who_becomeProduct_58 : decode b_Who_becomeProduct 58 = .ok (.iload 6, 2) := by decide +kernel
theorem d_Who_becomeProduct_60 : decode b_Who_becomeProduct 60 = .ok (.iadd, 1) := by decide +kernel
theorem d_Who_becomeProduct_61 : decode b_Who_becomeProduct 61 = .ok (.lload 7, 2) := by decide +kernel
theorem d_Who_becomeProduct_63 : decode b_Who_becomeProduct 63 = .ok (.ldc2_w 13, 3) := by decide +kernel
theorem d_Who_becomeProduct_66 : decode b_Who_becomeProduct 66 = .ok (.lrem, 1) := by decide +kernel
theorem d_Who_becomeProduct_67 : decode b_Who_becomeProduct 67 = .ok (.lastore, 1) := by decide +kernel
theorem d_Who_becomeProduct_68 : decode b_Who_becomeProduct 68 = .ok (.lload 7, 2) := by decide +kernel
theorem d_Who_becomeProduct_70 : decode b_Who_becomeProduct 70 = .ok (.ldc2_w 13, 3) := by decide +kernel
theorem d_Who_becomeProduct_73 : decode b_Who_becomeProduct 73 = .ok (.ldiv, 1) := by decide +kernel
theorem d_Who_becomeProduct_74 : decode b_Who_becomeProduct 74 = .ok (.lstore 4, 2) := by decide +kernel
theorem d_Who_becomeProduct_76 : decode b_Who_becomeProduct 76 = .ok (.iinc 6 1, 3) := by decide +kernel
theorem d_Who_becomeProduct_79 : decode b_Who_becomeProduct 79 = .ok (.goto (-61), 3) := by decide +kernel
theorem d_Who_becomeProduct_82 : decode b_Who_becomeProduct 82 = .ok (.aload_n 0, 1) := by decide +kernel
theorem d_Who_becomeProduct_83 : decode b_Who_becomeProduct 83 = .ok (.getfield 9, 3) := by decide +kernel
theorem d_Who_becomeProduct_86 : decode b_Who_becomeProduct 86 = .ok (.iload_n 3, 1) := by decide +kernel
theorem d_Who_becomeProduct_87 : decode b_Who_becomeProduct 87 = .ok (.iconst 4, 1) := by decide +kernel
theorem d_Who_becomeProduct_88 : decode b_Who_becomeProduct 88 = .ok (.iadd, 1) := by decide +kernel
theorem d_Who_becomeProduct_89 : decode b_Who_becomeProduct 89 = .ok (.lload 4, 2) := by decide +kernel
theorem d_Who_becomeProduct_91 : decode b_Who_becomeProduct 91 = .ok (.lastore, 1) := by decide +kernel
theorem d_Who_becomeProduct_92 : decode b_Who_becomeProduct 92 = .ok (.iinc 3 1, 3) := by decide +kernel
theorem d_Who_becomeProduct_95 : decode b_Who_becomeProduct 95 = .ok (.goto (-88), 3) := by decide +kernel
theorem d_Who_becomeProduct_98 : decode b_Who_becomeProduct 98 = .ok (.return_, 1) := by decide +kernel
theorem d_Who_divide_0 : decode b_Who_divide 0 = .ok (.lconst 0, 1) := by decide +kernel
theorem d_Who_divide_1 : decode b_Who_divide 1 = .ok (.lstore_n 2, 1) := by decide +kernel
theorem d_Who_divide_2 : decode b_Who_divide 2 = .ok (.bipush 7, 2) := by decide +kernel
theorem d_Who_divide_4 : decode b_Who_divide 4 = .ok (.istore 4, 2) := by decide +kernel
theorem d_Who_divide_6 : decode b_Who_divide 6 = .ok (.iload 4, 2) := by decide +kernel
theorem d_Who_divide_8 : decode b_Who_divide 8 = .ok (.ifCond .lt 42, 3) := by decide +kernel
theorem d_Who_divide_11 : decode b_Who_divide 11 = .ok (.lload_n 2, 1) := by decide +kernel
theorem d_Who_divide_12 : decode b_Who_divide 12 = .ok (.ldc2_w 13, 3) := by decide +kernel
theorem d_Who_divide_15 : decode b_Who_divide 15 = .ok (.lmul, 1) := by decide +kernel
theorem d_Who_divide_16 : decode b_Who_divide 16 = .ok (.aload_n 0, 1) := by decide +kernel
theorem d_Who_divide_17 : decode b_Who_divide 17 = .ok (.getfield 9, 3) := by decide +kernel
theorem d_Who_divide_20 : decode b_Who_divide 20 = .ok (.iload 4, 2) := by decide +kernel
theorem d_Who_divide_22 : decode b_Who_divide 22 = .ok (.laload, 1) := by decide +kernel
theorem d_Who_divide_23 : decode b_Who_divide 23 = .ok (.ladd, 1) := by decide +kernel
theorem d_Who_divide_24 : decode b_Who_divide 24 = .ok (.lstore 5, 2) := by decide +kernel
theorem d_Who_divide_26 : decode b_Who_divide 26 = .ok (.aload_n 0, 1) := by decide +kernel
theorem d_Who_divide_27 : decode b_Who_divide 27 = .ok (.getfield 9, 3) := by decide +kernel
theorem d_Who_divide_30 : decode b_Who_divide 30 = .ok (.iload 4, 2) := by decide +kernel
theorem d_Who_divide_32 : decode b_Who_divide 32 = .ok (.lload 5, 2) := by decide +kernel
theorem d_Who_divide_34 : decode b_Who_divide 34 = .ok (.iload_n 1, 1) := by decide +kernel
theorem d_Who_divide_35 : decode b_Who_divide 35 = .ok (.i2l, 1) := by decide +kernel
theorem d_Who_divide_36 : decode b_Who_divide 36 = .ok (.ldiv, 1) := by decide +kernel
theorem d_Who_divide_37 : decode b_Who_divide 37 = .ok (.lastore, 1) := by decide +kernel
theorem d_Who_divide_38 : decode b_Who_divide 38 = .ok (.lload 5, 2) := by decide +kernel
theorem d_Who_divide_40 : decode b_Who_divide 40 = .ok (.iload_n 1, 1) := by decide +kernel
theorem d_Who_divide_41 : decode b_Who_divide 41 = .ok (.i2l, 1) := by decide +kernel
theorem d_Who_divide_42 : decode b_Who_divide 42 = .ok (.lrem, 1) := by decide +kernel
theorem d_Who_divide_43 : decode b_Who_divide 43 = .ok (.lstore_n 2, 1) := by decide +kernel
theorem d_Who_divide_44 : decode b_Who_divide 44 = .ok (.iinc 4 (-1), 3) := by decide +kernel
theorem d_Who_divide_47 : decode b_Who_divide 47 = .ok (.goto (-41), 3) := by decide +kernel
theorem d_Who_divide_50 : decode b_Who_divide 50 = .ok (.lload_n 2, 1) := by decide +kernel
theorem d_Who_divide_51 : decode b_Who_divide 51 = .ok (.lreturn, 1) := by decide +kernel
theorem d_Who_order_0 : decode b_Who_order 0 = .ok (.bipush 7, 2) := by decide +kernel
theorem d_Who_order_2 : decode b_Who_order 2 = .ok (.istore_n 2, 1) := by decide +kernel
theorem d_Who_order_3 : decode b_Who_order 3 = .ok (.iload_n 2, 1) := by decide +kernel
theorem d_Who_order_4 : decode b_Who_order 4 = .ok (.ifCond .lt 47, 3) := by decide +kernel
theorem d_Who_order_7 : decode b_Who_order 7 = .ok (.aload_n 0, 1) := by decide +kernel
theorem d_Who_order_8 : decode b_Who_order 8 = .ok (.getfield 9, 3) := by decide +kernel
theorem d_Who_order_11 : decode b_Who_order 11 = .ok (.iload_n 2, 1) := by decide +kernel
theorem d_Who_order_12 : decode b_Who_order 12 = .ok (.laload, 1) := by decide +kernel
theorem d_Who_order_13 : decode b_Who_order 13 = .ok (.aload_n 1, 1) := by decide +kernel
theorem d_Who_order_14 : decode b_Who_order 14 = .ok (.getfield 9, 3) := by decide +kernel
theorem d_Who_order_17 : decode b_Who_order 17 = .ok (.iload_n 2, 1) := by decide +kernel
theorem d_Who_order_18 : decode b_Who_order 18 = .ok (.laload, 1) := by decide +kernel
theorem d_Who_order_19 : decode b_Who_order 19 = .ok (.lcmp, 1) := by decide +kernel
theorem d_Who_order_20 : decode b_Who_order 20 = .ok (.ifCond .eq 25, 3) := by decide +kernel
theorem d_Who_order_23 : decode b_Who_order 23 = .ok (.aload_n 0, 1) := by decide +kernel
theorem d_Who_order_24 : decode b_Who_order 24 = .ok (.getfield 9, 3) := by decide +kernel
theorem d_Who_order_27 : decode b_Who_order 27 = .ok (.iload_n 2, 1) := by decide +kernel
theorem d_Who_order_28 : decode b_Who_order 28 = .ok (.laload, 1) := by decide +kernel
theorem d_Who_order_29 : decode b_Who_order 29 = .ok (.aload_n 1, 1) := by decide +kernel
theorem d_Who_order_30 : decode b_Who_order 30 = .ok (.getfield 9, 3) := by decide +kernel
theorem d_Who_order_33 : decode b_Who_order 33 = .ok (.iload_n 2, 1) := by decide +kernel
theorem d_Who_order_34 : decode b_Who_order 34 = .ok (.laload, 1) := by decide +kernel
theorem d_Who_order_35 : decode b_Who_order 35 = .ok (.lcmp, 1) := by decide +kernel
theorem d_Who_order_36 : decode b_Who_order 36 = .ok (.ifCond .ge 7, 3) := by decide +kernel
theorem d_Who_order_39 : decode b_Who_order 39 = .ok (.iconst (-1), 1) := by decide +kernel
theorem d_Who_order_40 : decode b_Who_order 40 = .ok (.goto 4, 3) := by decide +kernel
theorem d_Who_order_43 : decode b_Who_order 43 = .ok (.iconst 1, 1) := by decide +kernel
theorem d_Who_order_44 : decode b_Who_order 44 = .ok (.ireturn, 1) := by decide +kernel
theorem d_Who_order_45 : decode b_Who_order 45 = .ok (.iinc 2 (-1), 3) := by decide +kernel
theorem d_Who_order_48 : decode b_Who_order 48 = .ok (.goto (-45), 3) := by decide +kernel
theorem d_Who_order_51 : decode b_Who_order 51 = .ok (.iconst 0, 1) := by decide +kernel
theorem d_Who_order_52 : decode b_Who_order 52 = .ok (.ireturn, 1) := by decide +kernel
theorem d_Who_isZero_0 : decode b_Who_isZero 0 = .ok (.iconst 0, 1) := by decide +kernel
theorem d_Who_isZero_1 : decode b_Who_isZero 1 = .ok (.istore_n 1, 1) := by decide +kernel
theorem d_Who_isZero_2 : decode b_Who_isZero 2 = .ok (.iload_n 1, 1) := by decide +kernel
theorem d_Who_isZero_3 : decode b_Who_isZero 3 = .ok (.bipush 8, 2) := by decide +kernel
theorem d_Who_isZero_5 : decode b_Who_isZero 5 = .ok (.if_icmp .ge 22, 3) := by decide +kernel
theorem d_Who_isZero_8 : decode b_Who_isZero 8 = .ok (.aload_n 0, 1) := by decide +kernel
theorem d_Who_isZero_9 : decode b_Who_isZero 9 = .ok (.getfield 9, 3) := by decide +kernel
theorem d_Who_isZero_12 : decode b_Who_isZero 12 = .ok (.iload_n 1, 1) := by decide +kernel
theorem d_Who_isZero_13 : decode b_Who_isZero 13 = .ok (.laload, 1) := by decide +kernel
theorem d_Who_isZero_14 : decode b_Who_isZero 14 = .ok (.lconst 0, 1) := by decide +kernel
theorem d_Who_isZero_15 : decode b_Who_isZero 15 = .ok (.lcmp, 1) := by decide +kernel
theorem d_Who_isZero_16 : decode b_Who_isZero 16 = .ok (.ifCond .eq 5, 3) := by decide +kernel
theorem d_Who_isZero_19 : decode b_Who_isZero 19 = .ok (.iconst 0, 1) := by decide +kernel
theorem d_Who_isZero_20 : decode b_Who_isZero 20 = .ok (.ireturn, 1) := by decide +kernel
theorem d_Who_isZero_21 : decode b_Who_isZero 21 = .ok (.iinc 1 1, 3) := by decide +kernel
theorem d_Who_isZero_24 : decode b_Who_isZero 24 = .ok (.goto (-22), 3) := by decide +kernel
theorem d_Who_isZero_27 : decode b_Who_isZero 27 = .ok (.iconst 1, 1) := by decide +kernel
theorem d_Who_isZero_28 : decode b_Who_isZero 28 = .ok (.ireturn, 1) := by decide +kernel
theorem d_Who_isWeight_0 : decode b_Who_isWeight 0 = .ok (.iconst 4, 1) := by decide +kernel
theorem d_Who_isWeight_1 : decode b_Who_isWeight 1 = .ok (.istore_n 1, 1) := by decide +kernel
theorem d_Who_isWeight_2 : decode b_Who_isWeight 2 = .ok (.iload_n 1, 1) := by decide +kernel
theorem d_Who_isWeight_3 : decode b_Who_isWeight 3 = .ok (.bipush 8, 2) := by decide +kernel
theorem d_Who_isWeight_5 : decode b_Who_isWeight 5 = .ok (.if_icmp .ge 22, 3) := by decide +kernel
theorem d_Who_isWeight_8 : decode b_Who_isWeight 8 = .ok (.aload_n 0, 1) := by decide +kernel
theorem d_Who_isWeight_9 : decode b_Who_isWeight 9 = .ok (.getfield 9, 3) := by decide +kernel
theorem d_Who_isWeight_12 : decode b_Who_isWeight 12 = .ok (.iload_n 1, 1) := by decide +kernel
theorem d_Who_isWeight_13 : decode b_Who_isWeight 13 = .ok (.laload, 1) := by decide +kernel
theorem d_Who_isWeight_14 : decode b_Who_isWeight 14 = .ok (.lconst 0, 1) := by decide +kernel
theorem d_Who_isWeight_15 : decode b_Who_isWeight 15 = .ok (.lcmp, 1) := by decide +kernel
theorem d_Who_isWeight_16 : decode b_Who_isWeight 16 = .ok (.ifCond .eq 5, 3) := by decide +kernel
theorem d_Who_isWeight_19 : decode b_Who_isWeight 19 = .ok (.iconst 0, 1) := by decide +kernel
theorem d_Who_isWeight_20 : decode b_Who_isWeight 20 = .ok (.ireturn, 1) := by decide +kernel
theorem d_Who_isWeight_21 : decode b_Who_isWeight 21 = .ok (.iinc 1 1, 3) := by decide +kernel
theorem d_Who_isWeight_24 : decode b_Who_isWeight 24 = .ok (.goto (-22), 3) := by decide +kernel
theorem d_Who_isWeight_27 : decode b_Who_isWeight 27 = .ok (.iconst 1, 1) := by decide +kernel
theorem d_Who_isWeight_28 : decode b_Who_isWeight 28 = .ok (.ireturn, 1) := by decide +kernel
theorem d_Who_digitAt_0 : decode b_Who_digitAt 0 = .ok (.aload_n 0, 1) := by decide +kernel
theorem d_Who_digitAt_1 : decode b_Who_digitAt 1 = .ok (.getfield 9, 3) := by decide +kernel
theorem d_Who_digitAt_4 : decode b_Who_digitAt 4 = .ok (.iload_n 1, 1) := by decide +kernel
theorem d_Who_digitAt_5 : decode b_Who_digitAt 5 = .ok (.bipush 9, 2) := by decide +kernel
theorem d_Who_digitAt_7 : decode b_Who_digitAt 7 = .ok (.idiv, 1) := by decide +kernel
theorem d_Who_digitAt_8 : decode b_Who_digitAt 8 = .ok (.laload, 1) := by decide +kernel
theorem d_Who_digitAt_9 : decode b_Who_digitAt 9 = .ok (.lstore_n 2, 1) := by decide +kernel
theorem d_Who_digitAt_10 : decode b_Who_digitAt 10 = .ok (.iload_n 1, 1) := by decide +kernel
theorem d_Who_digitAt_11 : decode b_Who_digitAt 11 = .ok (.bipush 9, 2) := by decide +kernel
theorem d_Who_digitAt_13 : decode b_Who_digitAt 13 = .ok (.irem, 1) := by decide +kernel
theorem d_Who_digitAt_14 : decode b_Who_digitAt 14 = .ok (.istore 4, 2) := by decide +kernel
theorem d_Who_digitAt_16 : decode b_Who_digitAt 16 = .ok (.iload 4, 2) := by decide +kernel
theorem d_Who_digitAt_18 : decode b_Who_digitAt 18 = .ok (.ifCond .le 15, 3) := by decide +kernel
theorem d_Who_digitAt_21 : decode b_Who_digitAt 21 = .ok (.lload_n 2, 1) := by decide +kernel
theorem d_Who_digitAt_22 : decode b_Who_digitAt 22 = .ok (.ldc2_w 19, 3) := by decide +kernel
theorem d_Who_digitAt_25 : decode b_Who_digitAt 25 = .ok (.ldiv, 1) := by decide +kernel
theorem d_Who_digitAt_26 : decode b_Who_digitAt 26 = .ok (.lstore_n 2, 1) := by decide +kernel
theorem d_Who_digitAt_27 : decode b_Who_digitAt 27 = .ok (.iinc 4 (-1), 3) := by decide +kernel
theorem d_Who_digitAt_30 : decode b_Who_digitAt 30 = .ok (.goto (-14), 3) := by decide +kernel
theorem d_Who_digitAt_33 : decode b_Who_digitAt 33 = .ok (.lload_n 2, 1) := by decide +kernel
theorem d_Who_digitAt_34 : decode b_Who_digitAt 34 = .ok (.ldc2_w 19, 3) := by decide +kernel
theorem d_Who_digitAt_37 : decode b_Who_digitAt 37 = .ok (.lrem, 1) := by decide +kernel
theorem d_Who_digitAt_38 : decode b_Who_digitAt 38 = .ok (.l2i, 1) := by decide +kernel
theorem d_Who_digitAt_39 : decode b_Who_digitAt 39 = .ok (.ireturn, 1) := by decide +kernel
