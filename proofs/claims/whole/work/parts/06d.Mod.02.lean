theorem d_Mod_add_43 : decode b_Mod_add 43 = .ok (.iaload, 1) := by decide +kernel
theorem d_Mod_add_44 : decode b_Mod_add 44 = .ok (.if_icmp .ge 12, 3) := by decide +kernel
theorem d_Mod_add_47 : decode b_Mod_add 47 = .ok (.aload_n 0, 1) := by decide +kernel
theorem d_Mod_add_48 : decode b_Mod_add 48 = .ok (.getfield 7, 3) := by decide +kernel
theorem d_Mod_add_51 : decode b_Mod_add 51 = .ok (.iload_n 1, 1) := by decide +kernel
theorem d_Mod_add_52 : decode b_Mod_add 52 = .ok (.iaload, 1) := by decide +kernel
theorem d_Mod_add_53 : decode b_Mod_add 53 = .ok (.goto 9, 3) := by decide +kernel
theorem d_Mod_add_56 : decode b_Mod_add 56 = .ok (.aload_n 0, 1) := by decide +kernel
theorem d_Mod_add_57 : decode b_Mod_add 57 = .ok (.getfield 7, 3) := by decide +kernel
theorem d_Mod_add_60 : decode b_Mod_add 60 = .ok (.iload_n 2, 1) := by decide +kernel
theorem d_Mod_add_61 : decode b_Mod_add 61 = .ok (.iaload, 1) := by decide +kernel
theorem d_Mod_add_62 : decode b_Mod_add 62 = .ok (.istore 4, 2) := by decide +kernel
theorem d_Mod_add_64 : decode b_Mod_add 64 = .ok (.aload_n 0, 1) := by decide +kernel
theorem d_Mod_add_65 : decode b_Mod_add 65 = .ok (.getfield 7, 3) := by decide +kernel
theorem d_Mod_add_68 : decode b_Mod_add 68 = .ok (.iload_n 1, 1) := by decide +kernel
theorem d_Mod_add_69 : decode b_Mod_add 69 = .ok (.iaload, 1) := by decide +kernel
theorem d_Mod_add_70 : decode b_Mod_add 70 = .ok (.aload_n 0, 1) := by decide +kernel
theorem d_Mod_add_71 : decode b_Mod_add 71 = .ok (.getfield 13, 3) := by decide +kernel
theorem d_Mod_add_74 : decode b_Mod_add 74 = .ok (.iload_n 1, 1) := by decide +kernel
theorem d_Mod_add_75 : decode b_Mod_add 75 = .ok (.iaload, 1) := by decide +kernel
theorem d_Mod_add_76 : decode b_Mod_add 76 = .ok (.iadd, 1) := by decide +kernel
theorem d_Mod_add_77 : decode b_Mod_add 77 = .ok (.iconst 1, 1) := by decide +kernel
theorem d_Mod_add_78 : decode b_Mod_add 78 = .ok (.isub, 1) := by decide +kernel
theorem d_Mod_add_79 : decode b_Mod_add 79 = .ok (.istore 6, 2) := by decide +kernel
theorem d_Mod_add_81 : decode b_Mod_add 81 = .ok (.aload_n 0, 1) := by decide +kernel
theorem d_Mod_add_82 : decode b_Mod_add 82 = .ok (.getfield 7, 3) := by decide +kernel
theorem d_Mod_add_85 : decode b_Mod_add 85 = .ok (.iload_n 2, 1) := by decide +kernel
theorem d_Mod_add_86 : decode b_Mod_add 86 = .ok (.iaload, 1) := by decide +kernel
theorem d_Mod_add_87 : decode b_Mod_add 87 = .ok (.aload_n 0, 1) := by decide +kernel
theorem d_Mod_add_88 : decode b_Mod_add 88 = .ok (.getfield 13, 3) := by decide +kernel
theorem d_Mod_add_91 : decode b_Mod_add 91 = .ok (.iload_n 2, 1) := by decide +kernel
theorem d_Mod_add_92 : decode b_Mod_add 92 = .ok (.iaload, 1) := by decide +kernel
theorem d_Mod_add_93 : decode b_Mod_add 93 = .ok (.iadd, 1) := by decide +kernel
theorem d_Mod_add_94 : decode b_Mod_add 94 = .ok (.iconst 1, 1) := by decide +kernel
theorem d_Mod_add_95 : decode b_Mod_add 95 = .ok (.isub, 1) := by decide +kernel
theorem d_Mod_add_96 : decode b_Mod_add 96 = .ok (.istore 7, 2) := by decide +kernel
theorem d_Mod_add_98 : decode b_Mod_add 98 = .ok (.iload 6, 2) := by decide +kernel
theorem d_Mod_add_100 : decode b_Mod_add 100 = .ok (.iload 7, 2) := by decide +kernel
theorem d_Mod_add_102 : decode b_Mod_add 102 = .ok (.if_icmp .le 8, 3) := by decide +kernel
theorem d_Mod_add_105 : decode b_Mod_add 105 = .ok (.iload 6, 2) := by decide +kernel
theorem d_Mod_add_107 : decode b_Mod_add 107 = .ok (.goto 5, 3) := by decide +kernel
theorem d_Mod_add_110 : decode b_Mod_add 110 = .ok (.iload 7, 2) := by decide +kernel
theorem d_Mod_add_112 : decode b_Mod_add 112 = .ok (.istore 5, 2) := by decide +kernel
theorem d_Mod_add_114 : decode b_Mod_add 114 = .ok (.aload_n 0, 1) := by decide +kernel
theorem d_Mod_add_115 : decode b_Mod_add 115 = .ok (.iload_n 3, 1) := by decide +kernel
theorem d_Mod_add_116 : decode b_Mod_add 116 = .ok (.aload_n 0, 1) := by decide +kernel
theorem d_Mod_add_117 : decode b_Mod_add 117 = .ok (.getfield 39, 3) := by decide +kernel
theorem d_Mod_add_120 : decode b_Mod_add 120 = .ok (.bipush 8, 2) := by decide +kernel
theorem d_Mod_add_122 : decode b_Mod_add 122 = .ok (.if_icmp .ge 7, 3) := by decide +kernel
theorem d_Mod_add_125 : decode b_Mod_add 125 = .ok (.iconst 1, 1) := by decide +kernel
theorem d_Mod_add_126 : decode b_Mod_add 126 = .ok (.goto 4, 3) := by decide +kernel
theorem d_Mod_add_129 : decode b_Mod_add 129 = .ok (.iconst 0, 1) := by decide +kernel
theorem d_Mod_add_130 : decode b_Mod_add 130 = .ok (.iload 5, 2) := by decide +kernel
theorem d_Mod_add_132 : decode b_Mod_add 132 = .ok (.iload 4, 2) := by decide +kernel
theorem d_Mod_add_134 : decode b_Mod_add 134 = .ok (.isub, 1) := by decide +kernel
theorem d_Mod_add_135 : decode b_Mod_add 135 = .ok (.bipush 48, 2) := by decide +kernel
theorem d_Mod_add_137 : decode b_Mod_add 137 = .ok (.if_icmp .ge 7, 3) := by decide +kernel
theorem d_Mod_add_140 : decode b_Mod_add 140 = .ok (.iconst 1, 1) := by decide +kernel
theorem d_Mod_add_141 : decode b_Mod_add 141 = .ok (.goto 4, 3) := by decide +kernel
theorem d_Mod_add_144 : decode b_Mod_add 144 = .ok (.iconst 0, 1) := by decide +kernel
theorem d_Mod_add_145 : decode b_Mod_add 145 = .ok (.iconst 1, 1) := by decide +kernel
theorem d_Mod_add_146 : decode b_Mod_add 146 = .ok (.invokevirtual 50, 3) := by decide +kernel
theorem d_Mod_add_149 : decode b_Mod_add 149 = .ok (.ifCond .ne 5, 3) := by decide +kernel
theorem d_Mod_add_152 : decode b_Mod_add 152 = .ok (.iconst 0, 1) := by decide +kernel
theorem d_Mod_add_153 : decode b_Mod_add 153 = .ok (.ireturn, 1) := by decide +kernel
theorem d_Mod_add_154 : decode b_Mod_add 154 = .ok (.aload_n 0, 1) := by decide +kernel
theorem d_Mod_add_155 : decode b_Mod_add 155 = .ok (.iload 4, 2) := by decide +kernel
theorem d_Mod_add_157 : decode b_Mod_add 157 = .ok (.iload 5, 2) := by decide +kernel
theorem d_Mod_add_159 : decode b_Mod_add 159 = .ok (.iload 4, 2) := by decide +kernel
theorem d_Mod_add_161 : decode b_Mod_add 161 = .ok (.isub, 1) := by decide +kernel
theorem d_Mod_add_162 : decode b_Mod_add 162 = .ok (.iconst 1, 1) := by decide +kernel
theorem d_Mod_add_163 : decode b_Mod_add 163 = .ok (.iadd, 1) := by decide +kernel
theorem d_Mod_add_164 : decode b_Mod_add 164 = .ok (.invokevirtual 54, 3) := by decide +kernel
theorem d_Mod_add_167 : decode b_Mod_add 167 = .ok (.iconst 1, 1) := by decide +kernel
theorem d_Mod_add_168 : decode b_Mod_add 168 = .ok (.istore 6, 2) := by decide +kernel
theorem d_Mod_add_170 : decode b_Mod_add 170 = .ok (.iload 4, 2) := by decide +kernel
theorem d_Mod_add_172 : decode b_Mod_add 172 = .ok (.istore 7, 2) := by decide +kernel
theorem d_Mod_add_174 : decode b_Mod_add 174 = .ok (.iload 7, 2) := by decide +kernel
theorem d_Mod_add_176 : decode b_Mod_add 176 = .ok (.iload 5, 2) := by decide +kernel
theorem d_Mod_add_178 : decode b_Mod_add 178 = .ok (.if_icmp .gt 54, 3) := by decide +kernel
theorem d_Mod_add_181 : decode b_Mod_add 181 = .ok (.aload_n 0, 1) := by decide +kernel
theorem d_Mod_add_182 : decode b_Mod_add 182 = .ok (.invokevirtual 68, 3) := by decide +kernel
theorem d_Mod_add_185 : decode b_Mod_add 185 = .ok (.aload_n 0, 1) := by decide +kernel
theorem d_Mod_add_186 : decode b_Mod_add 186 = .ok (.iload_n 1, 1) := by decide +kernel
theorem d_Mod_add_187 : decode b_Mod_add 187 = .ok (.iload 7, 2) := by decide +kernel
theorem d_Mod_add_189 : decode b_Mod_add 189 = .ok (.invokevirtual 71, 3) := by decide +kernel
theorem d_Mod_add_192 : decode b_Mod_add 192 = .ok (.aload_n 0, 1) := by decide +kernel
theorem d_Mod_add_193 : decode b_Mod_add 193 = .ok (.iload_n 2, 1) := by decide +kernel
theorem d_Mod_add_194 : decode b_Mod_add 194 = .ok (.iload 7, 2) := by decide +kernel
theorem d_Mod_add_196 : decode b_Mod_add 196 = .ok (.invokevirtual 71, 3) := by decide +kernel
theorem d_Mod_add_199 : decode b_Mod_add 199 = .ok (.aload_n 0, 1) := by decide +kernel
theorem d_Mod_add_200 : decode b_Mod_add 200 = .ok (.aload_n 0, 1) := by decide +kernel
theorem d_Mod_add_201 : decode b_Mod_add 201 = .ok (.getfield 39, 3) := by decide +kernel
theorem d_Mod_add_204 : decode b_Mod_add 204 = .ok (.iconst 1, 1) := by decide +kernel
theorem d_Mod_add_205 : decode b_Mod_add 205 = .ok (.isub, 1) := by decide +kernel
theorem d_Mod_add_206 : decode b_Mod_add 206 = .ok (.iload 7, 2) := by decide +kernel
theorem d_Mod_add_208 : decode b_Mod_add 208 = .ok (.invokevirtual 74, 3) := by decide +kernel
theorem d_Mod_add_211 : decode b_Mod_add 211 = .ok (.ifCond .eq 12, 3) := by decide +kernel
theorem d_Mod_add_214 : decode b_Mod_add 214 = .ok (.iload 6, 2) := by decide +kernel
theorem d_Mod_add_216 : decode b_Mod_add 216 = .ok (.ifCond .eq 7, 3) := by decide +kernel
theorem d_Mod_add_219 : decode b_Mod_add 219 = .ok (.iconst 1, 1) := by decide +kernel
theorem d_Mod_add_220 : decode b_Mod_add 220 = .ok (.goto 4, 3) := by decide +kernel
theorem d_Mod_add_223 : decode b_Mod_add 223 = .ok (.iconst 0, 1) := by decide +kernel
theorem d_Mod_add_224 : decode b_Mod_add 224 = .ok (.istore 6, 2) := by decide +kernel
theorem d_Mod_add_226 : decode b_Mod_add 226 = .ok (.iinc 7 1, 3) := by decide +kernel
theorem d_Mod_add_229 : decode b_Mod_add 229 = .ok (.goto (-55), 3) := by decide +kernel
theorem d_Mod_add_232 : decode b_Mod_add 232 = .ok (.aload_n 0, 1) := by decide +kernel
theorem d_Mod_add_233 : decode b_Mod_add 233 = .ok (.iload 6, 2) := by decide +kernel
theorem d_Mod_add_235 : decode b_Mod_add 235 = .ok (.ifCond .eq 10, 3) := by decide +kernel
theorem d_Mod_add_238 : decode b_Mod_add 238 = .ok (.aload_n 0, 1) := by decide +kernel
theorem d_Mod_add_239 : decode b_Mod_add 239 = .ok (.getfield 39, 3) := by decide +kernel
theorem d_Mod_add_242 : decode b_Mod_add 242 = .ok (.goto 9, 3) := by decide +kernel
theorem d_Mod_add_245 : decode b_Mod_add 245 = .ok (.aload_n 0, 1) := by decide +kernel
theorem d_Mod_add_246 : decode b_Mod_add 246 = .ok (.getfield 39, 3) := by decide +kernel
theorem d_Mod_add_249 : decode b_Mod_add 249 = .ok (.iconst 1, 1) := by decide +kernel
theorem d_Mod_add_250 : decode b_Mod_add 250 = .ok (.isub, 1) := by decide +kernel
theorem d_Mod_add_251 : decode b_Mod_add 251 = .ok (.putfield 39, 3) := by decide +kernel
theorem d_Mod_add_254 : decode b_Mod_add 254 = .ok (.aload_n 0, 1) := by decide +kernel
theorem d_Mod_add_255 : decode b_Mod_add 255 = .ok (.iconst 1, 1) := by decide +kernel
theorem d_Mod_add_256 : decode b_Mod_add 256 = .ok (.iconst 1, 1) := by decide +kernel
theorem d_Mod_add_257 : decode b_Mod_add 257 = .ok (.iconst 1, 1) := by decide +kernel
theorem d_Mod_add_258 : decode b_Mod_add 258 = .ok (.iload 6, 2) := by decide +kernel
theorem d_Mod_add_260 : decode b_Mod_add 260 = .ok (.invokevirtual 50, 3) := by decide +kernel
theorem d_Mod_add_263 : decode b_Mod_add 263 = .ok (.ifCond .eq 12, 3) := by decide +kernel
theorem d_Mod_add_266 : decode b_Mod_add 266 = .ok (.aload_n 0, 1) := by decide +kernel
theorem d_Mod_add_267 : decode b_Mod_add 267 = .ok (.getfield 39, 3) := by decide +kernel
theorem d_Mod_add_270 : decode b_Mod_add 270 = .ok (.iconst 1, 1) := by decide +kernel
theorem d_Mod_add_271 : decode b_Mod_add 271 = .ok (.isub, 1) := by decide +kernel
theorem d_Mod_add_272 : decode b_Mod_add 272 = .ok (.goto 4, 3) := by decide +kernel
theorem d_Mod_add_275 : decode b_Mod_add 275 = .ok (.iconst 0, 1) := by decide +kernel
theorem d_Mod_add_276 : decode b_Mod_add 276 = .ok (.ireturn, 1) := by decide +kernel
theorem d_Mod_multiply_0 : decode b_Mod_multiply 0 = .ok (.aload_n 0, 1) := by decide +kernel
theorem d_Mod_multiply_1 : decode b_Mod_multiply 1 = .ok (.invokevirtual 68, 3) := by decide +kernel
theorem d_Mod_multiply_4 : decode b_Mod_multiply 4 = .ok (.iconst 0, 1) := by decide +kernel
theorem d_Mod_multiply_5 : decode b_Mod_multiply 5 = .ok (.istore_n 3, 1) := by decide +kernel
theorem d_Mod_multiply_6 : decode b_Mod_multiply 6 = .ok (.iload_n 3, 1) := by decide +kernel
theorem d_Mod_multiply_7 : decode b_Mod_multiply 7 = .ok (.bipush 36, 2) := by decide +kernel
theorem d_Mod_multiply_9 : decode b_Mod_multiply 9 = .ok (.if_icmp .ge 95, 3) := by decide +kernel
theorem d_Mod_multiply_12 : decode b_Mod_multiply 12 = .ok (.iconst 0, 1) := by decide +kernel
theorem d_Mod_multiply_13 : decode b_Mod_multiply 13 = .ok (.istore 4, 2) := by decide +kernel
theorem d_Mod_multiply_15 : decode b_Mod_multiply 15 = .ok (.iconst 0, 1) := by decide +kernel
theorem d_Mod_multiply_16 : decode b_Mod_multiply 16 = .ok (.istore 5, 2) := by decide +kernel
theorem d_Mod_multiply_18 : decode b_Mod_multiply 18 = .ok (.iload_n 3, 1) := by decide +kernel
theorem d_Mod_multiply_19 : decode b_Mod_multiply 19 = .ok (.iload 5, 2) := by decide +kernel
theorem d_Mod_multiply_21 : decode b_Mod_multiply 21 = .ok (.iadd, 1) := by decide +kernel
theorem d_Mod_multiply_22 : decode b_Mod_multiply 22 = .ok (.bipush 80, 2) := by decide +kernel
theorem d_Mod_multiply_24 : decode b_Mod_multiply 24 = .ok (.if_icmp .ge 74, 3) := by decide +kernel
theorem d_Mod_multiply_27 : decode b_Mod_multiply 27 = .ok (.aload_n 0, 1) := by decide +kernel
theorem d_Mod_multiply_28 : decode b_Mod_multiply 28 = .ok (.getfield 25, 3) := by decide +kernel
theorem d_Mod_multiply_31 : decode b_Mod_multiply 31 = .ok (.iload_n 3, 1) := by decide +kernel
theorem d_Mod_multiply_32 : decode b_Mod_multiply 32 = .ok (.iload 5, 2) := by decide +kernel
theorem d_Mod_multiply_34 : decode b_Mod_multiply 34 = .ok (.iadd, 1) := by decide +kernel
theorem d_Mod_multiply_35 : decode b_Mod_multiply 35 = .ok (.iaload, 1) := by decide +kernel
theorem d_Mod_multiply_36 : decode b_Mod_multiply 36 = .ok (.iload 4, 2) := by decide +kernel
theorem d_Mod_multiply_38 : decode b_Mod_multiply 38 = .ok (.iadd, 1) := by decide +kernel
theorem d_Mod_multiply_39 : decode b_Mod_multiply 39 = .ok (.iload 5, 2) := by decide +kernel
theorem d_Mod_multiply_41 : decode b_Mod_multiply 41 = .ok (.bipush 36, 2) := by decide +kernel
theorem d_Mod_multiply_43 : decode b_Mod_multiply 43 = .ok (.if_icmp .ge 24, 3) := by decide +kernel
theorem d_Mod_multiply_46 : decode b_Mod_multiply 46 = .ok (.aload_n 0, 1) := by decide +kernel
theorem d_Mod_multiply_47 : decode b_Mod_multiply 47 = .ok (.getfield 16, 3) := by decide +kernel
theorem d_Mod_multiply_50 : decode b_Mod_multiply 50 = .ok (.iload_n 1, 1) := by decide +kernel
theorem d_Mod_multiply_51 : decode b_Mod_multiply 51 = .ok (.iload_n 3, 1) := by decide +kernel
theorem d_Mod_multiply_52 : decode b_Mod_multiply 52 = .ok (.iadd, 1) := by decide +kernel
theorem d_Mod_multiply_53 : decode b_Mod_multiply 53 = .ok (.iaload, 1) := by decide +kernel
theorem d_Mod_multiply_54 : decode b_Mod_multiply 54 = .ok (.aload_n 0, 1) := by decide +kernel
theorem d_Mod_multiply_55 : decode b_Mod_multiply 55 = .ok (.getfield 16, 3) := by decide +kernel
theorem d_Mod_multiply_58 : decode b_Mod_multiply 58 = .ok (.iload_n 2, 1) := by decide +kernel
theorem d_Mod_multiply_59 : decode b_Mod_multiply 59 = .ok (.iload 5, 2) := by decide +kernel
theorem d_Mod_multiply_61 : decode b_Mod_multiply 61 = .ok (.iadd, 1) := by decide +kernel
theorem d_Mod_multiply_62 : decode b_Mod_multiply 62 = .ok (.iaload, 1) := by decide +kernel
theorem d_Mod_multiply_63 : decode b_Mod_multiply 63 = .ok (.imul, 1) := by decide +kernel
theorem d_Mod_multiply_64 : decode b_Mod_multiply 64 = .ok (.goto 4, 3) := by decide +kernel
theorem d_Mod_multiply_67 : decode b_Mod_multiply 67 = .ok (.iconst 0, 1) := by decide +kernel
theorem d_Mod_multiply_68 : decode b_Mod_multiply 68 = .ok (.iadd, 1) := by decide +kernel
theorem d_Mod_multiply_69 : decode b_Mod_multiply 69 = .ok (.istore 6, 2) := by decide +kernel
theorem d_Mod_multiply_71 : decode b_Mod_multiply 71 = .ok (.aload_n 0, 1) := by decide +kernel
theorem d_Mod_multiply_72 : decode b_Mod_multiply 72 = .ok (.getfield 25, 3) := by decide +kernel
theorem d_Mod_multiply_75 : decode b_Mod_multiply 75 = .ok (.iload_n 3, 1) := by decide +kernel
theorem d_Mod_multiply_76 : decode b_Mod_multiply 76 = .ok (.iload 5, 2) := by decide +kernel
theorem d_Mod_multiply_78 : decode b_Mod_multiply 78 = .ok (.iadd, 1) := by decide +kernel
theorem d_Mod_multiply_79 : decode b_Mod_multiply 79 = .ok (.iload 6, 2) := by decide +kernel
theorem d_Mod_multiply_81 : decode b_Mod_multiply 81 = .ok (.bipush 10, 2) := by decide +kernel
theorem d_Mod_multiply_83 : decode b_Mod_multiply 83 = .ok (.irem, 1) := by decide +kernel
theorem d_Mod_multiply_84 : decode b_Mod_multiply 84 = .ok (.iastore, 1) := by decide +kernel
theorem d_Mod_multiply_85 : decode b_Mod_multiply 85 = .ok (.iload 6, 2) := by decide +kernel
theorem d_Mod_multiply_87 : decode b_Mod_multiply 87 = .ok (.bipush 10, 2) := by decide +kernel
theorem d_Mod_multiply_89 : decode b_Mod_multiply 89 = .ok (.idiv, 1) := by decide +kernel
theorem d_Mod_multiply_90 : decode b_Mod_multiply 90 = .ok (.istore 4, 2) := by decide +kernel
theorem d_Mod_multiply_92 : decode b_Mod_multiply 92 = .ok (.iinc 5 1, 3) := by decide +kernel
theorem d_Mod_multiply_95 : decode b_Mod_multiply 95 = .ok (.goto (-77), 3) := by decide +kernel
theorem d_Mod_multiply_98 : decode b_Mod_multiply 98 = .ok (.iinc 3 1, 3) := by decide +kernel
theorem d_Mod_multiply_101 : decode b_Mod_multiply 101 = .ok (.goto (-95), 3) := by decide +kernel
theorem d_Mod_multiply_104 : decode b_Mod_multiply 104 = .ok (.return_, 1) := by decide +kernel
theorem d_Mod_divide_0 : decode b_Mod_divide 0 = .ok (.lconst 0, 1) := by decide +kernel
theorem d_Mod_divide_1 : decode b_Mod_divide 1 = .ok (.lstore_n 2, 1) := by decide +kernel
theorem d_Mod_divide_2 : decode b_Mod_divide 2 = .ok (.bipush 79, 2) := by decide +kernel
theorem d_Mod_divide_4 : decode b_Mod_divide 4 = .ok (.istore 4, 2) := by decide +kernel
theorem d_Mod_divide_6 : decode b_Mod_divide 6 = .ok (.iload 4, 2) := by decide +kernel
theorem d_Mod_divide_8 : decode b_Mod_divide 8 = .ok (.ifCond .lt 41, 3) := by decide +kernel
theorem d_Mod_divide_11 : decode b_Mod_divide 11 = .ok (.lload_n 2, 1) := by decide +kernel
theorem d_Mod_divide_12 : decode b_Mod_divide 12 = .ok (.ldc2_w 62, 3) := by decide +kernel
theorem d_Mod_divide_15 : decode b_Mod_divide 15 = .ok (.lmul, 1) := by decide +kernel
theorem d_Mod_divide_16 : decode b_Mod_divide 16 = .ok (.aload_n 0, 1) := by decide +kernel
theorem d_Mod_divide_17 : decode b_Mod_divide 17 = .ok (.getfield 25, 3) := by decide +kernel
theorem d_Mod_divide_20 : decode b_Mod_divide 20 = .ok (.iload 4, 2) := by decide +kernel
theorem d_Mod_divide_22 : decode b_Mod_divide 22 = .ok (.iaload, 1) := by decide +kernel
theorem d_Mod_divide_23 : decode b_Mod_divide 23 = .ok (.i2l, 1) := by decide +kernel
theorem d_Mod_divide_24 : decode b_Mod_divide 24 = .ok (.ladd, 1) := by decide +kernel
theorem d_Mod_divide_25 : decode b_Mod_divide 25 = .ok (.lstore_n 2, 1) := by decide +kernel
theorem d_Mod_divide_26 : decode b_Mod_divide 26 = .ok (.aload_n 0, 1) := by decide +kernel
theorem d_Mod_divide_27 : decode b_Mod_divide 27 = .ok (.getfield 25, 3) := by decide +kernel
theorem d_Mod_divide_30 : decode b_Mod_divide 30 = .ok (.iload 4, 2) := by decide +kernel
theorem d_Mod_divide_32 : decode b_Mod_divide 32 = .ok (.lload_n 2, 1) := by decide +kernel
theorem d_Mod_divide_33 : decode b_Mod_divide 33 = .ok (.iload_n 1, 1) := by decide +kernel
theorem d_Mod_divide_34 : decode b_Mod_divide 34 = .ok (.i2l, 1) := by decide +kernel
theorem d_Mod_divide_35 : decode b_Mod_divide 35 = .ok (.ldiv, 1) := by decide +kernel
theorem d_Mod_divide_36 : decode b_Mod_divide 36 = .ok (.l2i, 1) := by decide +kernel
theorem d_Mod_divide_37 : decode b_Mod_divide 37 = .ok (.iastore, 1) := by decide +kernel
theorem d_Mod_divide_38 : decode b_Mod_divide 38 = .ok (.lload_n 2, 1) := by decide +kernel
theorem d_Mod_divide_39 : decode b_Mod_divide 39 = .ok (.iload_n 1, 1) := by decide +kernel
theorem d_Mod_divide_40 : decode b_Mod_divide 40 = .ok (.i2l, 1) := by decide +kernel
theorem d_Mod_divide_41 : decode b_Mod_divide 41 = .ok (.lrem, 1) := by decide +kernel
theorem d_Mod_divide_42 : decode b_Mod_divide 42 = .ok (.lstore_n 2, 1) := by decide +kernel
theorem d_Mod_divide_43 : decode b_Mod_divide 43 = .ok (.iinc 4 (-1), 3) := by decide +kernel
theorem d_Mod_divide_46 : decode b_Mod_divide 46 = .ok (.goto (-40), 3) := by decide +kernel
theorem d_Mod_divide_49 : decode b_Mod_divide 49 = .ok (.lload_n 2, 1) := by decide +kernel
theorem d_Mod_divide_50 : decode b_Mod_divide 50 = .ok (.lreturn, 1) := by decide +kernel
theorem d_Mod_times_0 : decode b_Mod_times 0 = .ok (.aload_n 0, 1) := by decide +kernel
theorem d_Mod_times_1 : decode b_Mod_times 1 = .ok (.iload_n 1, 1) := by decide +kernel
theorem d_Mod_times_2 : decode b_Mod_times 2 = .ok (.invokevirtual 42, 3) := by decide +kernel
theorem d_Mod_times_5 : decode b_Mod_times 5 = .ok (.ifCond .eq 15, 3) := by decide +kernel
theorem d_Mod_times_8 : decode b_Mod_times 8 = .ok (.aload_n 0, 1) := by decide +kernel
theorem d_Mod_times_9 : decode b_Mod_times 9 = .ok (.iload_n 2, 1) := by decide +kernel
theorem d_Mod_times_10 : decode b_Mod_times 10 = .ok (.invokevirtual 42, 3) := by decide +kernel
theorem d_Mod_times_13 : decode b_Mod_times 13 = .ok (.ifCond .eq 7, 3) := by decide +kernel
theorem d_Mod_times_16 : decode b_Mod_times 16 = .ok (.iconst 1, 1) := by decide +kernel
theorem d_Mod_times_17 : decode b_Mod_times 17 = .ok (.goto 4, 3) := by decide +kernel
theorem d_Mod_times_20 : decode b_Mod_times 20 = .ok (.iconst 0, 1) := by decide +kernel
theorem d_Mod_times_21 : decode b_Mod_times 21 = .ok (.istore 4, 2) := by decide +kernel
theorem d_Mod_times_23 : decode b_Mod_times 23 = .ok (.iconst 0, 1) := by decide +kernel
theorem d_Mod_times_24 : decode b_Mod_times 24 = .ok (.istore 5, 2) := by decide +kernel
theorem d_Mod_times_26 : decode b_Mod_times 26 = .ok (.iconst (-1), 1) := by decide +kernel
theorem d_Mod_times_27 : decode b_Mod_times 27 = .ok (.istore 6, 2) := by decide +kernel
theorem d_Mod_times_29 : decode b_Mod_times 29 = .ok (.iload 4, 2) := by decide +kernel
theorem d_Mod_times_31 : decode b_Mod_times 31 = .ok (.ifCond .eq 85, 3) := by decide +kernel
theorem d_Mod_times_34 : decode b_Mod_times 34 = .ok (.aload_n 0, 1) := by decide +kernel
theorem d_Mod_times_35 : decode b_Mod_times 35 = .ok (.getfield 7, 3) := by decide +kernel
theorem d_Mod_times_38 : decode b_Mod_times 38 = .ok (.iload_n 1, 1) := by decide +kernel
theorem d_Mod_times_39 : decode b_Mod_times 39 = .ok (.iaload, 1) := by decide +kernel
theorem d_Mod_times_40 : decode b_Mod_times 40 = .ok (.aload_n 0, 1) := by decide +kernel
theorem d_Mod_times_41 : decode b_Mod_times 41 = .ok (.getfield 7, 3) := by decide +kernel
theorem d_Mod_times_44 : decode b_Mod_times 44 = .ok (.iload_n 2, 1) := by decide +kernel
theorem d_Mod_times_45 : decode b_Mod_times 45 = .ok (.iaload, 1) := by decide +kernel
theorem d_Mod_times_46 : decode b_Mod_times 46 = .ok (.if_icmp .le 12, 3) := by decide +kernel
theorem d_Mod_times_49 : decode b_Mod_times 49 = .ok (.aload_n 0, 1) := by decide +kernel
theorem d_Mod_times_50 : decode b_Mod_times 50 = .ok (.getfield 7, 3) := by decide +kernel
theorem d_Mod_times_53 : decode b_Mod_times 53 = .ok (.iload_n 1, 1) := by decide +kernel
theorem d_Mod_times_54 : decode b_Mod_times 54 = .ok (.iaload, 1) := by decide +kernel
theorem d_Mod_times_55 : decode b_Mod_times 55 = .ok (.goto 9, 3) := by decide +kernel
theorem d_Mod_times_58 : decode b_Mod_times 58 = .ok (.aload_n 0, 1) := by decide +kernel
theorem d_Mod_times_59 : decode b_Mod_times 59 = .ok (.getfield 7, 3) := by decide +kernel
theorem d_Mod_times_62 : decode b_Mod_times 62 = .ok (.iload_n 2, 1) := by decide +kernel
theorem d_Mod_times_63 : decode b_Mod_times 63 = .ok (.iaload, 1) := by decide +kernel
theorem d_Mod_times_64 : decode b_Mod_times 64 = .ok (.istore 5, 2) := by decide +kernel
theorem d_Mod_times_66 : decode b_Mod_times 66 = .ok (.aload_n 0, 1) := by decide +kernel
theorem d_Mod_times_67 : decode b_Mod_times 67 = .ok (.getfield 7, 3) := by decide +kernel
theorem d_Mod_times_70 : decode b_Mod_times 70 = .ok (.iload_n 1, 1) := by decide +kernel
theorem d_Mod_times_71 : decode b_Mod_times 71 = .ok (.iaload, 1) := by decide +kernel
theorem d_Mod_times_72 : decode b_Mod_times 72 = .ok (.aload_n 0, 1) := by decide +kernel
theorem d_Mod_times_73 : decode b_Mod_times 73 = .ok (.getfield 13, 3) := by decide +kernel
theorem d_Mod_times_76 : decode b_Mod_times 76 = .ok (.iload_n 1, 1) := by decide +kernel
theorem d_Mod_times_77 : decode b_Mod_times 77 = .ok (.iaload, 1) := by decide +kernel
theorem d_Mod_times_78 : decode b_Mod_times 78 = .ok (.iadd, 1) := by decide +kernel
theorem d_Mod_times_79 : decode b_Mod_times 79 = .ok (.iconst 1, 1) := by decide +kernel
theorem d_Mod_times_80 : decode b_Mod_times 80 = .ok (.isub, 1) := by decide +kernel
theorem d_Mod_times_81 : decode b_Mod_times 81 = .ok (.istore 7, 2) := by decide +kernel
theorem d_Mod_times_83 : decode b_Mod_times 83 = .ok (.aload_n 0, 1) := by decide +kernel
theorem d_Mod_times_84 : decode b_Mod_times 84 = .ok (.getfield 7, 3) := by decide +kernel
theorem d_Mod_times_87 : decode b_Mod_times 87 = .ok (.iload_n 2, 1) := by decide +kernel
theorem d_Mod_times_88 : decode b_Mod_times 88 = .ok (.iaload, 1) := by decide +kernel
theorem d_Mod_times_89 : decode b_Mod_times 89 = .ok (.aload_n 0, 1) := by decide +kernel
theorem d_Mod_times_90 : decode b_Mod_times 90 = .ok (.getfield 13, 3) := by decide +kernel
theorem d_Mod_times_93 : decode b_Mod_times 93 = .ok (.iload_n 2, 1) := by decide +kernel
theorem d_Mod_times_94 : decode b_Mod_times 94 = .ok (.iaload, 1) := by decide +kernel
theorem d_Mod_times_95 : decode b_Mod_times 95 = .ok (.iadd, 1) := by decide +kernel
theorem d_Mod_times_96 : decode b_Mod_times 96 = .ok (.iconst 1, 1) := by decide +kernel
theorem d_Mod_times_97 : decode b_Mod_times 97 = .ok (.isub, 1) := by decide +kernel
theorem d_Mod_times_98 : decode b_Mod_times 98 = .ok (.istore 8, 2) := by decide +kernel
theorem d_Mod_times_100 : decode b_Mod_times 100 = .ok (.iload 7, 2) := by decide +kernel
theorem d_Mod_times_102 : decode b_Mod_times 102 = .ok (.iload 8, 2) := by decide +kernel
theorem d_Mod_times_104 : decode b_Mod_times 104 = .ok (.if_icmp .ge 8, 3) := by decide +kernel
theorem d_Mod_times_107 : decode b_Mod_times 107 = .ok (.iload 7, 2) := by decide +kernel
theorem d_Mod_times_109 : decode b_Mod_times 109 = .ok (.goto 5, 3) := by decide +kernel
theorem d_Mod_times_112 : decode b_Mod_times 112 = .ok (.iload 8, 2) := by decide +kernel
theorem d_Mod_times_114 : decode b_Mod_times 114 = .ok (.istore 6, 2) := by decide +kernel
theorem d_Mod_times_116 : decode b_Mod_times 116 = .ok (.aload_n 0, 1) := by decide +kernel
theorem d_Mod_times_117 : decode b_Mod_times 117 = .ok (.iload 4, 2) := by decide +kernel
theorem d_Mod_times_119 : decode b_Mod_times 119 = .ok (.aload_n 0, 1) := by decide +kernel
theorem d_Mod_times_120 : decode b_Mod_times 120 = .ok (.getfield 39, 3) := by decide +kernel
theorem d_Mod_times_123 : decode b_Mod_times 123 = .ok (.bipush 8, 2) := by decide +kernel
theorem d_Mod_times_125 : decode b_Mod_times 125 = .ok (.if_icmp .ge 7, 3) := by decide +kernel
theorem d_Mod_times_128 : decode b_Mod_times 128 = .ok (.iconst 1, 1) := by decide +kernel
theorem d_Mod_times_129 : decode b_Mod_times 129 = .ok (.goto 4, 3) := by decide +kernel
theorem d_Mod_times_132 : decode b_Mod_times 132 = .ok (.iconst 0, 1) := by decide +kernel
theorem d_Mod_times_133 : decode b_Mod_times 133 = .ok (.iload_n 3, 1) := by decide +kernel
theorem d_Mod_times_134 : decode b_Mod_times 134 = .ok (.iconst 1, 1) := by decide +kernel
theorem d_Mod_times_135 : decode b_Mod_times 135 = .ok (.ldc 77, 2) := by decide +kernel
theorem d_Mod_times_137 : decode b_Mod_times 137 = .ok (.invokestatic 46, 3) := by decide +kernel
theorem d_Mod_times_140 : decode b_Mod_times 140 = .ok (.ifCond .eq 14, 3) := by decide +kernel
theorem d_Mod_times_143 : decode b_Mod_times 143 = .ok (.iload 6, 2) := by decide +kernel
theorem d_Mod_times_145 : decode b_Mod_times 145 = .ok (.iload 5, 2) := by decide +kernel
theorem d_Mod_times_147 : decode b_Mod_times 147 = .ok (.if_icmp .lt 7, 3) := by decide +kernel
theorem d_Mod_times_150 : decode b_Mod_times 150 = .ok (.iconst 1, 1) := by decide +kernel
theorem d_Mod_times_151 : decode b_Mod_times 151 = .ok (.goto 4, 3) := by decide +kernel
theorem d_Mod_times_154 : decode b_Mod_times 154 = .ok (.iconst 0, 1) := by decide +kernel
theorem d_Mod_times_155 : decode b_Mod_times 155 = .ok (.iconst 1, 1) := by decide +kernel
theorem d_Mod_times_156 : decode b_Mod_times 156 = .ok (.invokevirtual 50, 3) := by decide +kernel
theorem d_Mod_times_159 : decode b_Mod_times 159 = .ok (.ifCond .ne 5, 3) := by decide +kernel
theorem d_Mod_times_162 : decode b_Mod_times 162 = .ok (.iconst 0, 1) := by decide +kernel
theorem d_Mod_times_163 : decode b_Mod_times 163 = .ok (.ireturn, 1) := by decide +kernel
theorem d_Mod_times_164 : decode b_Mod_times 164 = .ok (.aload_n 0, 1) := by decide +kernel
theorem d_Mod_times_165 : decode b_Mod_times 165 = .ok (.iload 5, 2) := by decide +kernel
theorem d_Mod_times_167 : decode b_Mod_times 167 = .ok (.iload 6, 2) := by decide +kernel
theorem d_Mod_times_169 : decode b_Mod_times 169 = .ok (.iload 5, 2) := by decide +kernel
theorem d_Mod_times_171 : decode b_Mod_times 171 = .ok (.isub, 1) := by decide +kernel
theorem d_Mod_times_172 : decode b_Mod_times 172 = .ok (.iconst 1, 1) := by decide +kernel
theorem d_Mod_times_173 : decode b_Mod_times 173 = .ok (.iadd, 1) := by decide +kernel
theorem d_Mod_times_174 : decode b_Mod_times 174 = .ok (.invokevirtual 54, 3) := by decide +kernel
theorem d_Mod_times_177 : decode b_Mod_times 177 = .ok (.iconst 1, 1) := by decide +kernel
theorem d_Mod_times_178 : decode b_Mod_times 178 = .ok (.istore 7, 2) := by decide +kernel
theorem d_Mod_times_180 : decode b_Mod_times 180 = .ok (.lconst 0, 1) := by decide +kernel
theorem d_Mod_times_181 : decode b_Mod_times 181 = .ok (.lstore 8, 2) := by decide +kernel
theorem d_Mod_times_183 : decode b_Mod_times 183 = .ok (.iload 5, 2) := by decide +kernel
theorem d_Mod_times_185 : decode b_Mod_times 185 = .ok (.istore 10, 2) := by decide +kernel
theorem d_Mod_times_187 : decode b_Mod_times 187 = .ok (.iload 10, 2) := by decide +kernel
theorem d_Mod_times_189 : decode b_Mod_times 189 = .ok (.iload 6, 2) := by decide +kernel
theorem d_Mod_times_191 : decode b_Mod_times 191 = .ok (.if_icmp .gt 64, 3) := by decide +kernel
theorem d_Mod_times_194 : decode b_Mod_times 194 = .ok (.aload_n 0, 1) := by decide +kernel
theorem d_Mod_times_195 : decode b_Mod_times 195 = .ok (.aload_n 0, 1) := by decide +kernel
theorem d_Mod_times_196 : decode b_Mod_times 196 = .ok (.iload_n 1, 1) := by decide +kernel
theorem d_Mod_times_197 : decode b_Mod_times 197 = .ok (.iload 10, 2) := by decide +kernel
theorem d_Mod_times_199 : decode b_Mod_times 199 = .ok (.invokevirtual 64, 3) := by decide +kernel
theorem d_Mod_times_202 : decode b_Mod_times 202 = .ok (.aload_n 0, 1) := by decide +kernel
theorem d_Mod_times_203 : decode b_Mod_times 203 = .ok (.iload_n 2, 1) := by decide +kernel
theorem d_Mod_times_204 : decode b_Mod_times 204 = .ok (.iload 10, 2) := by decide +kernel
theorem d_Mod_times_206 : decode b_Mod_times 206 = .ok (.invokevirtual 64, 3) := by decide +kernel
theorem d_Mod_times_209 : decode b_Mod_times 209 = .ok (.invokevirtual 78, 3) := by decide +kernel
theorem d_Mod_times_212 : decode b_Mod_times 212 = .ok (.lload 8, 2) := by decide +kernel
theorem d_Mod_times_214 : decode b_Mod_times 214 = .ok (.aload_n 0, 1) := by decide +kernel
theorem d_Mod_times_215 : decode b_Mod_times 215 = .ok (.iload_n 3, 1) := by decide +kernel
theorem d_Mod_times_216 : decode b_Mod_times 216 = .ok (.invokevirtual 81, 3) := by decide +kernel
theorem d_Mod_times_219 : decode b_Mod_times 219 = .ok (.ladd, 1) := by decide +kernel
theorem d_Mod_times_220 : decode b_Mod_times 220 = .ok (.lstore 8, 2) := by decide +kernel
theorem d_Mod_times_222 : decode b_Mod_times 222 = .ok (.aload_n 0, 1) := by decide +kernel
theorem d_Mod_times_223 : decode b_Mod_times 223 = .ok (.aload_n 0, 1) := by decide +kernel
theorem d_Mod_times_224 : decode b_Mod_times 224 = .ok (.getfield 39, 3) := by decide +kernel
theorem d_Mod_times_227 : decode b_Mod_times 227 = .ok (.iconst 1, 1) := by decide +kernel
theorem d_Mod_times_228 : decode b_Mod_times 228 = .ok (.isub, 1) := by decide +kernel
theorem d_Mod_times_229 : decode b_Mod_times 229 = .ok (.iload 10, 2) := by decide +kernel
theorem d_Mod_times_231 : decode b_Mod_times 231 = .ok (.invokevirtual 74, 3) := by decide +kernel
theorem d_Mod_times_234 : decode b_Mod_times 234 = .ok (.ifCond .eq 12, 3) := by decide +kernel
theorem d_Mod_times_237 : decode b_Mod_times 237 = .ok (.iload 7, 2) := by decide +kernel
theorem d_Mod_times_239 : decode b_Mod_times 239 = .ok (.ifCond .eq 7, 3) := by decide +kernel
theorem d_Mod_times_242 : decode b_Mod_times 242 = .ok (.iconst 1, 1) := by decide +kernel
theorem d_Mod_times_243 : decode b_Mod_times 243 = .ok (.goto 4, 3) := by decide +kernel
theorem d_Mod_times_246 : decode b_Mod_times 246 = .ok (.iconst 0, 1) := by decide +kernel
theorem d_Mod_times_247 : decode b_Mod_times 247 = .ok (.istore 7, 2) := by decide +kernel
theorem d_Mod_times_249 : decode b_Mod_times 249 = .ok (.iinc 10 1, 3) := by decide +kernel
theorem d_Mod_times_252 : decode b_Mod_times 252 = .ok (.goto (-65), 3) := by decide +kernel
theorem d_Mod_times_255 : decode b_Mod_times 255 = .ok (.aload_n 0, 1) := by decide +kernel
theorem d_Mod_times_256 : decode b_Mod_times 256 = .ok (.iload 7, 2) := by decide +kernel
theorem d_Mod_times_258 : decode b_Mod_times 258 = .ok (.ifCond .eq 10, 3) := by decide +kernel
theorem d_Mod_times_261 : decode b_Mod_times 261 = .ok (.aload_n 0, 1) := by decide +kernel
theorem d_Mod_times_262 : decode b_Mod_times 262 = .ok (.getfield 39, 3) := by decide +kernel
theorem d_Mod_times_265 : decode b_Mod_times 265 = .ok (.goto 9, 3) := by decide +kernel
theorem d_Mod_times_268 : decode b_Mod_times 268 = .ok (.aload_n 0, 1) := by decide +kernel
theorem d_Mod_times_269 : decode b_Mod_times 269 = .ok (.getfield 39, 3) := by decide +kernel
theorem d_Mod_times_272 : decode b_Mod_times 272 = .ok (.iconst 1, 1) := by decide +kernel
theorem d_Mod_times_273 : decode b_Mod_times 273 = .ok (.isub, 1) := by decide +kernel
theorem d_Mod_times_274 : decode b_Mod_times 274 = .ok (.putfield 39, 3) := by decide +kernel
theorem d_Mod_times_277 : decode b_Mod_times 277 = .ok (.aload_n 0, 1) := by decide +kernel
theorem d_Mod_times_278 : decode b_Mod_times 278 = .ok (.iload 7, 2) := by decide +kernel
theorem d_Mod_times_280 : decode b_Mod_times 280 = .ok (.ifCond .eq 8, 3) := by decide +kernel
theorem d_Mod_times_283 : decode b_Mod_times 283 = .ok (.lload 8, 2) := by decide +kernel
theorem d_Mod_times_285 : decode b_Mod_times 285 = .ok (.goto 7, 3) := by decide +kernel
theorem d_Mod_times_288 : decode b_Mod_times 288 = .ok (.aload_n 0, 1) := by decide +kernel
theorem d_Mod_times_289 : decode b_Mod_times 289 = .ok (.getfield 85, 3) := by decide +kernel
theorem d_Mod_times_292 : decode b_Mod_times 292 = .ok (.putfield 85, 3) := by decide +kernel
theorem d_Mod_times_295 : decode b_Mod_times 295 = .ok (.aload_n 0, 1) := by decide +kernel
theorem d_Mod_times_296 : decode b_Mod_times 296 = .ok (.iconst 1, 1) := by decide +kernel
theorem d_Mod_times_297 : decode b_Mod_times 297 = .ok (.iconst 1, 1) := by decide +kernel
theorem d_Mod_times_298 : decode b_Mod_times 298 = .ok (.iconst 1, 1) := by decide +kernel
theorem d_Mod_times_299 : decode b_Mod_times 299 = .ok (.iload 7, 2) := by decide +kernel
theorem d_Mod_times_301 : decode b_Mod_times 301 = .ok (.invokevirtual 50, 3) := by decide +kernel
theorem d_Mod_times_304 : decode b_Mod_times 304 = .ok (.ifCond .eq 12, 3) := by decide +kernel
theorem d_Mod_times_307 : decode b_Mod_times 307 = .ok (.aload_n 0, 1) := by decide +kernel
theorem d_Mod_times_308 : decode b_Mod_times 308 = .ok (.getfield 39, 3) := by decide +kernel
theorem d_Mod_times_311 : decode b_Mod_times 311 = .ok (.iconst 1, 1) := by decide +kernel
theorem d_Mod_times_312 : decode b_Mod_times 312 = .ok (.isub, 1) := by decide +kernel
theorem d_Mod_times_313 : decode b_Mod_times 313 = .ok (.goto 4, 3) := by decide +kernel
