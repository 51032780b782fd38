theorem d_Law_day_6 : decode b_Law_day 6 = .ok (.iload_n 3, 1) := by decide +kernel
theorem d_Law_day_7 : decode b_Law_day 7 = .ok (.iload 4, 2) := by decide +kernel
theorem d_Law_day_9 : decode b_Law_day 9 = .ok (.invokevirtual 55, 3) := by decide +kernel
theorem d_Law_day_12 : decode b_Law_day 12 = .ok (.i2l, 1) := by decide +kernel
theorem d_Law_day_13 : decode b_Law_day 13 = .ok (.lastore, 1) := by decide +kernel
theorem d_Law_day_14 : decode b_Law_day 14 = .ok (.goto 11, 3) := by decide +kernel
theorem d_Law_day_17 : decode b_Law_day 17 = .ok (.astore 6, 2) := by decide +kernel
theorem d_Law_day_19 : decode b_Law_day 19 = .ok (.iconst 1, 1) := by decide +kernel
theorem d_Law_day_20 : decode b_Law_day 20 = .ok (.ireturn, 1) := by decide +kernel
theorem d_Law_day_21 : decode b_Law_day 21 = .ok (.astore 6, 2) := by decide +kernel
theorem d_Law_day_23 : decode b_Law_day 23 = .ok (.iconst 2, 1) := by decide +kernel
theorem d_Law_day_24 : decode b_Law_day 24 = .ok (.ireturn, 1) := by decide +kernel
theorem d_Law_day_25 : decode b_Law_day 25 = .ok (.iconst 0, 1) := by decide +kernel
theorem d_Law_day_26 : decode b_Law_day 26 = .ok (.ireturn, 1) := by decide +kernel
theorem d_Law_date_0 : decode b_Law_date 0 = .ok (.aload 4, 2) := by decide +kernel
theorem d_Law_date_2 : decode b_Law_date 2 = .ok (.iconst 0, 1) := by decide +kernel
theorem d_Law_date_3 : decode b_Law_date 3 = .ok (.aload_n 0, 1) := by decide +kernel
theorem d_Law_date_4 : decode b_Law_date 4 = .ok (.iload_n 1, 1) := by decide +kernel
theorem d_Law_date_5 : decode b_Law_date 5 = .ok (.iload_n 2, 1) := by decide +kernel
theorem d_Law_date_6 : decode b_Law_date 6 = .ok (.iload_n 3, 1) := by decide +kernel
theorem d_Law_date_7 : decode b_Law_date 7 = .ok (.invokevirtual 58, 3) := by decide +kernel
theorem d_Law_date_10 : decode b_Law_date 10 = .ok (.i2l, 1) := by decide +kernel
theorem d_Law_date_11 : decode b_Law_date 11 = .ok (.lastore, 1) := by decide +kernel
theorem d_Law_date_12 : decode b_Law_date 12 = .ok (.goto 11, 3) := by decide +kernel
theorem d_Law_date_15 : decode b_Law_date 15 = .ok (.astore 5, 2) := by decide +kernel
theorem d_Law_date_17 : decode b_Law_date 17 = .ok (.iconst 1, 1) := by decide +kernel
theorem d_Law_date_18 : decode b_Law_date 18 = .ok (.ireturn, 1) := by decide +kernel
theorem d_Law_date_19 : decode b_Law_date 19 = .ok (.astore 5, 2) := by decide +kernel
theorem d_Law_date_21 : decode b_Law_date 21 = .ok (.iconst 2, 1) := by decide +kernel
theorem d_Law_date_22 : decode b_Law_date 22 = .ok (.ireturn, 1) := by decide +kernel
theorem d_Law_date_23 : decode b_Law_date 23 = .ok (.iconst 0, 1) := by decide +kernel
theorem d_Law_date_24 : decode b_Law_date 24 = .ok (.ireturn, 1) := by decide +kernel
theorem d_Law_law_0 : decode code 0 = .ok (.new 8, 3) := by decide +kernel
theorem d_Law_law_3 : decode code 3 = .ok (.dup, 1) := by decide +kernel
theorem d_Law_law_4 : decode code 4 = .ok (.invokespecial 61, 3) := by decide +kernel
theorem d_Law_law_7 : decode code 7 = .ok (.astore_n 1, 1) := by decide +kernel
theorem d_Law_law_8 : decode code 8 = .ok (.new 62, 3) := by decide +kernel
theorem d_Law_law_11 : decode code 11 = .ok (.dup, 1) := by decide +kernel
theorem d_Law_law_12 : decode code 12 = .ok (.invokespecial 64, 3) := by decide +kernel
theorem d_Law_law_15 : decode code 15 = .ok (.astore_n 2, 1) := by decide +kernel
theorem d_Law_law_16 : decode code 16 = .ok (.iconst 1, 1) := by decide +kernel
theorem d_Law_law_17 : decode code 17 = .ok (.newarray .long, 2) := by decide +kernel
theorem d_Law_law_19 : decode code 19 = .ok (.astore_n 3, 1) := by decide +kernel
theorem d_Law_law_20 : decode code 20 = .ok (.iconst 0, 1) := by decide +kernel
theorem d_Law_law_21 : decode code 21 = .ok (.istore 4, 2) := by decide +kernel
theorem d_Law_law_23 : decode code 23 = .ok (.iload 4, 2) := by decide +kernel
theorem d_Law_law_25 : decode code 25 = .ok (.aload_n 0, 1) := by decide +kernel
theorem d_Law_law_26 : decode code 26 = .ok (.arraylength, 1) := by decide +kernel
theorem d_Law_law_27 : decode code 27 = .ok (.iconst 5, 1) := by decide +kernel
theorem d_Law_law_28 : decode code 28 = .ok (.isub, 1) := by decide +kernel
theorem d_Law_law_29 : decode code 29 = .ok (.if_icmp .gt 1240, 3) := by decide +kernel
theorem d_Law_law_32 : decode code 32 = .ok (.aload_n 0, 1) := by decide +kernel
theorem d_Law_law_33 : decode code 33 = .ok (.iload 4, 2) := by decide +kernel
theorem d_Law_law_35 : decode code 35 = .ok (.iaload, 1) := by decide +kernel
theorem d_Law_law_36 : decode code 36 = .ok (.bipush 15, 2) := by decide +kernel
theorem d_Law_law_38 : decode code 38 = .ok (.iand, 1) := by decide +kernel
theorem d_Law_law_39 : decode code 39 = .ok (.tableswitch 1224 0 15 #[77, 145, 264, 332, 412, 426, 506, 574, 654, 722, 814, 882, 1013, 1039, 1131, 1211], 77) := by decide +kernel
theorem d_Law_law_116 : decode code 116 = .ok (.aload_n 1, 1) := by decide +kernel
theorem d_Law_law_117 : decode code 117 = .ok (.aload_n 0, 1) := by decide +kernel
theorem d_Law_law_118 : decode code 118 = .ok (.iload 4, 2) := by decide +kernel
theorem d_Law_law_120 : decode code 120 = .ok (.iconst 1, 1) := by decide +kernel
theorem d_Law_law_121 : decode code 121 = .ok (.iadd, 1) := by decide +kernel
theorem d_Law_law_122 : decode code 122 = .ok (.iaload, 1) := by decide +kernel
theorem d_Law_law_123 : decode code 123 = .ok (.aload_n 0, 1) := by decide +kernel
theorem d_Law_law_124 : decode code 124 = .ok (.iload 4, 2) := by decide +kernel
theorem d_Law_law_126 : decode code 126 = .ok (.iconst 2, 1) := by decide +kernel
theorem d_Law_law_127 : decode code 127 = .ok (.iadd, 1) := by decide +kernel
theorem d_Law_law_128 : decode code 128 = .ok (.iaload, 1) := by decide +kernel
theorem d_Law_law_129 : decode code 129 = .ok (.aload_n 3, 1) := by decide +kernel
theorem d_Law_law_130 : decode code 130 = .ok (.invokestatic 65, 3) := by decide +kernel
theorem d_Law_law_133 : decode code 133 = .ok (.istore 5, 2) := by decide +kernel
theorem d_Law_law_135 : decode code 135 = .ok (.aload_n 2, 1) := by decide +kernel
theorem d_Law_law_136 : decode code 136 = .ok (.aload_n 0, 1) := by decide +kernel
theorem d_Law_law_137 : decode code 137 = .ok (.iload 4, 2) := by decide +kernel
theorem d_Law_law_139 : decode code 139 = .ok (.iconst 1, 1) := by decide +kernel
theorem d_Law_law_140 : decode code 140 = .ok (.iadd, 1) := by decide +kernel
theorem d_Law_law_141 : decode code 141 = .ok (.iaload, 1) := by decide +kernel
theorem d_Law_law_142 : decode code 142 = .ok (.aload_n 0, 1) := by decide +kernel
theorem d_Law_law_143 : decode code 143 = .ok (.iload 4, 2) := by decide +kernel
theorem d_Law_law_145 : decode code 145 = .ok (.iconst 2, 1) := by decide +kernel
theorem d_Law_law_146 : decode code 146 = .ok (.iadd, 1) := by decide +kernel
theorem d_Law_law_147 : decode code 147 = .ok (.iaload, 1) := by decide +kernel
theorem d_Law_law_148 : decode code 148 = .ok (.invokevirtual 70, 3) := by decide +kernel
theorem d_Law_law_151 : decode code 151 = .ok (.istore 6, 2) := by decide +kernel
theorem d_Law_law_153 : decode code 153 = .ok (.aload_n 2, 1) := by decide +kernel
theorem d_Law_law_154 : decode code 154 = .ok (.invokevirtual 71, 3) := by decide +kernel
theorem d_Law_law_157 : decode code 157 = .ok (.iload 5, 2) := by decide +kernel
theorem d_Law_law_159 : decode code 159 = .ok (.if_icmp .eq 5, 3) := by decide +kernel
theorem d_Law_law_162 : decode code 162 = .ok (.iconst 0, 1) := by decide +kernel
theorem d_Law_law_163 : decode code 163 = .ok (.ireturn, 1) := by decide +kernel
theorem d_Law_law_164 : decode code 164 = .ok (.iload 5, 2) := by decide +kernel
theorem d_Law_law_166 : decode code 166 = .ok (.ifCond .ne 15, 3) := by decide +kernel
theorem d_Law_law_169 : decode code 169 = .ok (.aload_n 3, 1) := by decide +kernel
theorem d_Law_law_170 : decode code 170 = .ok (.iconst 0, 1) := by decide +kernel
theorem d_Law_law_171 : decode code 171 = .ok (.laload, 1) := by decide +kernel
theorem d_Law_law_172 : decode code 172 = .ok (.iload 6, 2) := by decide +kernel
theorem d_Law_law_174 : decode code 174 = .ok (.i2l, 1) := by decide +kernel
theorem d_Law_law_175 : decode code 175 = .ok (.lcmp, 1) := by decide +kernel
theorem d_Law_law_176 : decode code 176 = .ok (.ifCond .eq 5, 3) := by decide +kernel
theorem d_Law_law_179 : decode code 179 = .ok (.iconst 0, 1) := by decide +kernel
