theorem dJ9_floorMod_7cf53_0 : decode cJ9_floorMod_7cf53 0 = .ok (.iload_n 0, 1) := by decide +kernel
theorem dJ9_floorMod_7cf53_1 : decode cJ9_floorMod_7cf53 1 = .ok (.iload_n 1, 1) := by decide +kernel
theorem dJ9_floorMod_7cf53_10 : decode cJ9_floorMod_7cf53 10 = .ok (.iload_n 2, 1) := by decide +kernel
theorem dJ9_floorMod_7cf53_11 : decode cJ9_floorMod_7cf53 11 = .ok (.ifCond .eq 7, 3) := by decide +kernel
theorem dJ9_floorMod_7cf53_14 : decode cJ9_floorMod_7cf53 14 = .ok (.iload_n 2, 1) := by decide +kernel
theorem dJ9_floorMod_7cf53_15 : decode cJ9_floorMod_7cf53 15 = .ok (.iload_n 1, 1) := by decide +kernel
theorem dJ9_floorMod_7cf53_16 : decode cJ9_floorMod_7cf53 16 = .ok (.iadd, 1) := by decide +kernel
theorem dJ9_floorMod_7cf53_17 : decode cJ9_floorMod_7cf53 17 = .ok (.ireturn, 1) := by decide +kernel
theorem dJ9_floorMod_7cf53_18 : decode cJ9_floorMod_7cf53 18 = .ok (.iload_n 2, 1) := by decide +kernel
theorem dJ9_floorMod_7cf53_19 : decode cJ9_floorMod_7cf53 19 = .ok (.ireturn, 1) := by decide +kernel
theorem dJ9_floorMod_7cf53_2 : decode cJ9_floorMod_7cf53 2 = .ok (.irem, 1) := by decide +kernel
theorem dJ9_floorMod_7cf53_3 : decode cJ9_floorMod_7cf53 3 = .ok (.istore_n 2, 1) := by decide +kernel
theorem dJ9_floorMod_7cf53_4 : decode cJ9_floorMod_7cf53 4 = .ok (.iload_n 0, 1) := by decide +kernel
theorem dJ9_floorMod_7cf53_5 : decode cJ9_floorMod_7cf53 5 = .ok (.iload_n 1, 1) := by decide +kernel
theorem dJ9_floorMod_7cf53_6 : decode cJ9_floorMod_7cf53 6 = .ok (.ixor, 1) := by decide +kernel
theorem dJ9_floorMod_7cf53_7 : decode cJ9_floorMod_7cf53 7 = .ok (.ifCond .ge 11, 3) := by decide +kernel
theorem dX11_change_0 : decode cX11_change 0 = .ok (.aload_n 0, 1) := by decide +kernel
theorem dX11_change_1 : decode cX11_change 1 = .ok (.iload_n 1, 1) := by decide +kernel
theorem dX11_change_11 : decode cX11_change 11 = .ok (.iload_n 2, 1) := by decide +kernel
theorem dX11_change_12 : decode cX11_change 12 = .ok (.bipush 99, 2) := by decide +kernel
theorem dX11_change_14 : decode cX11_change 14 = .ok (.if_icmp .le 13, 3) := by decide +kernel
theorem dX11_change_17 : decode cX11_change 17 = .ok (.new 101, 3) := by decide +kernel
theorem dX11_change_2 : decode cX11_change 2 = .ok (.invokevirtual 132, 3) := by decide +kernel
theorem dX11_change_20 : decode cX11_change 20 = .ok (.dup, 1) := by decide +kernel
theorem dX11_change_21 : decode cX11_change 21 = .ok (.ldc 215, 2) := by decide +kernel
theorem dX11_change_23 : decode cX11_change 23 = .ok (.invokespecial 105, 3) := by decide +kernel
theorem dX11_change_26 : decode cX11_change 26 = .ok (.athrow, 1) := by decide +kernel
theorem dX11_change_27 : decode cX11_change 27 = .ok (.aload_n 0, 1) := by decide +kernel
theorem dX11_change_28 : decode cX11_change 28 = .ok (.getfield 41, 3) := by decide +kernel
theorem dX11_change_31 : decode cX11_change 31 = .ok (.aload_n 0, 1) := by decide +kernel
theorem dX11_change_32 : decode cX11_change 32 = .ok (.getfield 34, 3) := by decide +kernel
theorem dX11_change_35 : decode cX11_change 35 = .ok (.invokevirtual 217, 3) := by decide +kernel
theorem dX11_change_38 : decode cX11_change 38 = .ok (.aload_n 0, 1) := by decide +kernel
theorem dX11_change_39 : decode cX11_change 39 = .ok (.getfield 34, 3) := by decide +kernel
theorem dX11_change_42 : decode cX11_change 42 = .ok (.iload_n 1, 1) := by decide +kernel
theorem dX11_change_43 : decode cX11_change 43 = .ok (.iload_n 2, 1) := by decide +kernel
theorem dX11_change_44 : decode cX11_change 44 = .ok (.invokevirtual 221, 3) := by decide +kernel
theorem dX11_change_47 : decode cX11_change 47 = .ok (.aload_n 0, 1) := by decide +kernel
theorem dX11_change_48 : decode cX11_change 48 = .ok (.getfield 34, 3) := by decide +kernel
theorem dX11_change_5 : decode cX11_change 5 = .ok (.iload_n 2, 1) := by decide +kernel
theorem dX11_change_51 : decode cX11_change 51 = .ok (.getfield 138, 3) := by decide +kernel
theorem dX11_change_54 : decode cX11_change 54 = .ok (.iload_n 1, 1) := by decide +kernel
theorem dX11_change_55 : decode cX11_change 55 = .ok (.iaload, 1) := by decide +kernel
theorem dX11_change_56 : decode cX11_change 56 = .ok (.ireturn, 1) := by decide +kernel
theorem dX11_change_6 : decode cX11_change 6 = .ok (.bipush (-99), 2) := by decide +kernel
theorem dX11_change_8 : decode cX11_change 8 = .ok (.if_icmp .lt 9, 3) := by decide +kernel
theorem dX11_days_0 : decode cX11_days 0 = .ok (.iload_n 1, 1) := by decide +kernel
theorem dX11_days_1 : decode cX11_days 1 = .ok (.iconst 1, 1) := by decide +kernel
theorem dX11_days_11 : decode cX11_days 11 = .ok (.new 101, 3) := by decide +kernel
theorem dX11_days_14 : decode cX11_days 14 = .ok (.dup, 1) := by decide +kernel
theorem dX11_days_15 : decode cX11_days 15 = .ok (.ldc 231, 2) := by decide +kernel
theorem dX11_days_17 : decode cX11_days 17 = .ok (.invokespecial 105, 3) := by decide +kernel
theorem dX11_days_2 : decode cX11_days 2 = .ok (.if_icmp .lt 9, 3) := by decide +kernel
theorem dX11_days_20 : decode cX11_days 20 = .ok (.athrow, 1) := by decide +kernel
theorem dX11_days_21 : decode cX11_days 21 = .ok (.aload_n 0, 1) := by decide +kernel
theorem dX11_days_22 : decode cX11_days 22 = .ok (.getfield 34, 3) := by decide +kernel
theorem dX11_days_25 : decode cX11_days 25 = .ok (.getfield 233, 3) := by decide +kernel
theorem dX11_days_28 : decode cX11_days 28 = .ok (.istore_n 2, 1) := by decide +kernel
theorem dX11_days_29 : decode cX11_days 29 = .ok (.iconst 0, 1) := by decide +kernel
theorem dX11_days_30 : decode cX11_days 30 = .ok (.istore_n 3, 1) := by decide +kernel
theorem dX11_days_31 : decode cX11_days 31 = .ok (.iload_n 3, 1) := by decide +kernel
theorem dX11_days_32 : decode cX11_days 32 = .ok (.iload_n 1, 1) := by decide +kernel
theorem dX11_days_33 : decode cX11_days 33 = .ok (.if_icmp .ge 27, 3) := by decide +kernel
theorem dX11_days_36 : decode cX11_days 36 = .ok (.aload_n 0, 1) := by decide +kernel
theorem dX11_days_37 : decode cX11_days 37 = .ok (.getfield 41, 3) := by decide +kernel
theorem dX11_days_40 : decode cX11_days 40 = .ok (.aload_n 0, 1) := by decide +kernel
theorem dX11_days_41 : decode cX11_days 41 = .ok (.getfield 34, 3) := by decide +kernel
theorem dX11_days_44 : decode cX11_days 44 = .ok (.invokevirtual 217, 3) := by decide +kernel
theorem dX11_days_47 : decode cX11_days 47 = .ok (.aload_n 0, 1) := by decide +kernel
theorem dX11_days_48 : decode cX11_days 48 = .ok (.getfield 34, 3) := by decide +kernel
theorem dX11_days_5 : decode cX11_days 5 = .ok (.iload_n 1, 1) := by decide +kernel
theorem dX11_days_51 : decode cX11_days 51 = .ok (.invokevirtual 236, 3) := by decide +kernel
theorem dX11_days_54 : decode cX11_days 54 = .ok (.iinc 3 1, 3) := by decide +kernel
theorem dX11_days_57 : decode cX11_days 57 = .ok (.goto (-26), 3) := by decide +kernel
theorem dX11_days_6 : decode cX11_days 6 = .ok (.bipush 9, 2) := by decide +kernel
theorem dX11_days_60 : decode cX11_days 60 = .ok (.aload_n 0, 1) := by decide +kernel
theorem dX11_days_61 : decode cX11_days 61 = .ok (.getfield 34, 3) := by decide +kernel
theorem dX11_days_64 : decode cX11_days 64 = .ok (.getfield 233, 3) := by decide +kernel
theorem dX11_days_67 : decode cX11_days 67 = .ok (.iload_n 2, 1) := by decide +kernel
theorem dX11_days_68 : decode cX11_days 68 = .ok (.isub, 1) := by decide +kernel
theorem dX11_days_69 : decode cX11_days 69 = .ok (.ireturn, 1) := by decide +kernel
theorem dX11_days_8 : decode cX11_days 8 = .ok (.if_icmp .le 13, 3) := by decide +kernel
theorem dX11_firstClash_0 : decode cX11_firstClash 0 = .ok (.aload_n 0, 1) := by decide +kernel
theorem dX11_firstClash_1 : decode cX11_firstClash 1 = .ok (.getfield 34, 3) := by decide +kernel
theorem dX11_firstClash_4 : decode cX11_firstClash 4 = .ok (.invokevirtual 197, 3) := by decide +kernel
theorem dX11_firstClash_7 : decode cX11_firstClash 7 = .ok (.ireturn, 1) := by decide +kernel
theorem dX11_keptWithin_0 : decode cX11_keptWithin 0 = .ok (.iload_n 1, 1) := by decide +kernel
theorem dX11_keptWithin_1 : decode cX11_keptWithin 1 = .ok (.iload_n 2, 1) := by decide +kernel
theorem dX11_keptWithin_2 : decode cX11_keptWithin 2 = .ok (.iload_n 0, 1) := by decide +kernel
theorem dX11_keptWithin_3 : decode cX11_keptWithin 3 = .ok (.invokestatic 465, 3) := by decide +kernel
theorem dX11_keptWithin_6 : decode cX11_keptWithin 6 = .ok (.invokestatic 498, 3) := by decide +kernel
theorem dX11_keptWithin_9 : decode cX11_keptWithin 9 = .ok (.ireturn, 1) := by decide +kernel
theorem dX11_move_0 : decode cX11_move 0 = .ok (.aload_n 0, 1) := by decide +kernel
theorem dX11_move_1 : decode cX11_move 1 = .ok (.getfield 34, 3) := by decide +kernel
theorem dX11_move_10 : decode cX11_move 10 = .ok (.iload_n 3, 1) := by decide +kernel
theorem dX11_move_11 : decode cX11_move 11 = .ok (.ifCond .eq 6, 3) := by decide +kernel
theorem dX11_move_14 : decode cX11_move 14 = .ok (.iload_n 3, 1) := by decide +kernel
theorem dX11_move_15 : decode cX11_move 15 = .ok (.ineg, 1) := by decide +kernel
theorem dX11_move_16 : decode cX11_move 16 = .ok (.ireturn, 1) := by decide +kernel
theorem dX11_move_17 : decode cX11_move 17 = .ok (.aload_n 0, 1) := by decide +kernel
theorem dX11_move_18 : decode cX11_move 18 = .ok (.getfield 41, 3) := by decide +kernel
theorem dX11_move_21 : decode cX11_move 21 = .ok (.aload_n 0, 1) := by decide +kernel
theorem dX11_move_22 : decode cX11_move 22 = .ok (.getfield 34, 3) := by decide +kernel
theorem dX11_move_25 : decode cX11_move 25 = .ok (.invokevirtual 217, 3) := by decide +kernel
theorem dX11_move_28 : decode cX11_move 28 = .ok (.aload_n 0, 1) := by decide +kernel
theorem dX11_move_29 : decode cX11_move 29 = .ok (.getfield 34, 3) := by decide +kernel
theorem dX11_move_32 : decode cX11_move 32 = .ok (.iload_n 1, 1) := by decide +kernel
theorem dX11_move_33 : decode cX11_move 33 = .ok (.iload_n 2, 1) := by decide +kernel
theorem dX11_move_34 : decode cX11_move 34 = .ok (.invokevirtual 228, 3) := by decide +kernel
theorem dX11_move_37 : decode cX11_move 37 = .ok (.ireturn, 1) := by decide +kernel
theorem dX11_move_4 : decode cX11_move 4 = .ok (.iload_n 1, 1) := by decide +kernel
theorem dX11_move_5 : decode cX11_move 5 = .ok (.iload_n 2, 1) := by decide +kernel
theorem dX11_move_6 : decode cX11_move 6 = .ok (.invokevirtual 225, 3) := by decide +kernel
theorem dX11_move_9 : decode cX11_move 9 = .ok (.istore_n 3, 1) := by decide +kernel
theorem dX11_why_0 : decode cX11_why 0 = .ok (.aload_n 0, 1) := by decide +kernel
theorem dX11_why_1 : decode cX11_why 1 = .ok (.getfield 34, 3) := by decide +kernel
theorem dX11_why_4 : decode cX11_why 4 = .ok (.iload_n 1, 1) := by decide +kernel
theorem dX11_why_5 : decode cX11_why 5 = .ok (.iload_n 2, 1) := by decide +kernel
theorem dX11_why_6 : decode cX11_why 6 = .ok (.invokevirtual 225, 3) := by decide +kernel
theorem dX11_why_9 : decode cX11_why 9 = .ok (.ireturn, 1) := by decide +kernel
theorem dX2_forbids_0 : decode cX2_forbids 0 = .ok (.aload_n 0, 1) := by decide +kernel
theorem dX2_forbids_1 : decode cX2_forbids 1 = .ok (.invokevirtual 34, 3) := by decide +kernel
theorem dX2_forbids_100 : decode cX2_forbids 100 = .ok (.bipush (-6), 2) := by decide +kernel
theorem dX2_forbids_102 : decode cX2_forbids 102 = .ok (.aload_n 0, 1) := by decide +kernel
theorem dX2_forbids_103 : decode cX2_forbids 103 = .ok (.iload_n 2, 1) := by decide +kernel
theorem dX2_forbids_104 : decode cX2_forbids 104 = .ok (.invokevirtual 46, 3) := by decide +kernel
theorem dX2_forbids_107 : decode cX2_forbids 107 = .ok (.ifCond .eq 7, 3) := by decide +kernel
theorem dX2_forbids_110 : decode cX2_forbids 110 = .ok (.iconst 1, 1) := by decide +kernel
theorem dX2_forbids_111 : decode cX2_forbids 111 = .ok (.goto 4, 3) := by decide +kernel
theorem dX2_forbids_114 : decode cX2_forbids 114 = .ok (.iconst 0, 1) := by decide +kernel
theorem dX2_forbids_115 : decode cX2_forbids 115 = .ok (.invokevirtual 42, 3) := by decide +kernel
theorem dX2_forbids_118 : decode cX2_forbids 118 = .ok (.aload_n 0, 1) := by decide +kernel
theorem dX2_forbids_119 : decode cX2_forbids 119 = .ok (.bipush (-7), 2) := by decide +kernel
theorem dX2_forbids_12 : decode cX2_forbids 12 = .ok (.ifCond .eq 15, 3) := by decide +kernel
theorem dX2_forbids_121 : decode cX2_forbids 121 = .ok (.iload_n 3, 1) := by decide +kernel
theorem dX2_forbids_122 : decode cX2_forbids 122 = .ok (.ifCond .eq 7, 3) := by decide +kernel
theorem dX2_forbids_125 : decode cX2_forbids 125 = .ok (.iconst 1, 1) := by decide +kernel
theorem dX2_forbids_126 : decode cX2_forbids 126 = .ok (.goto 4, 3) := by decide +kernel
theorem dX2_forbids_129 : decode cX2_forbids 129 = .ok (.iconst 0, 1) := by decide +kernel
theorem dX2_forbids_130 : decode cX2_forbids 130 = .ok (.invokevirtual 42, 3) := by decide +kernel
theorem dX2_forbids_133 : decode cX2_forbids 133 = .ok (.aload_n 0, 1) := by decide +kernel
theorem dX2_forbids_134 : decode cX2_forbids 134 = .ok (.bipush (-8), 2) := by decide +kernel
theorem dX2_forbids_136 : decode cX2_forbids 136 = .ok (.iload 4, 2) := by decide +kernel
theorem dX2_forbids_138 : decode cX2_forbids 138 = .ok (.ifCond .eq 7, 3) := by decide +kernel
theorem dX2_forbids_141 : decode cX2_forbids 141 = .ok (.iconst 1, 1) := by decide +kernel
theorem dX2_forbids_142 : decode cX2_forbids 142 = .ok (.goto 4, 3) := by decide +kernel
theorem dX2_forbids_145 : decode cX2_forbids 145 = .ok (.iconst 0, 1) := by decide +kernel
theorem dX2_forbids_146 : decode cX2_forbids 146 = .ok (.invokevirtual 42, 3) := by decide +kernel
theorem dX2_forbids_149 : decode cX2_forbids 149 = .ok (.iconst 0, 1) := by decide +kernel
theorem dX2_forbids_15 : decode cX2_forbids 15 = .ok (.aload_n 0, 1) := by decide +kernel
theorem dX2_forbids_150 : decode cX2_forbids 150 = .ok (.istore 5, 2) := by decide +kernel
theorem dX2_forbids_152 : decode cX2_forbids 152 = .ok (.iconst 0, 1) := by decide +kernel
theorem dX2_forbids_153 : decode cX2_forbids 153 = .ok (.istore 6, 2) := by decide +kernel
theorem dX2_forbids_155 : decode cX2_forbids 155 = .ok (.iload 6, 2) := by decide +kernel
theorem dX2_forbids_157 : decode cX2_forbids 157 = .ok (.aload_n 0, 1) := by decide +kernel
theorem dX2_forbids_158 : decode cX2_forbids 158 = .ok (.getfield 25, 3) := by decide +kernel
theorem dX2_forbids_16 : decode cX2_forbids 16 = .ok (.iload_n 2, 1) := by decide +kernel
theorem dX2_forbids_161 : decode cX2_forbids 161 = .ok (.if_icmp .ge 141, 3) := by decide +kernel
theorem dX2_forbids_164 : decode cX2_forbids 164 = .ok (.aload_n 0, 1) := by decide +kernel
theorem dX2_forbids_165 : decode cX2_forbids 165 = .ok (.getfield 9, 3) := by decide +kernel
theorem dX2_forbids_168 : decode cX2_forbids 168 = .ok (.iload 6, 2) := by decide +kernel
theorem dX2_forbids_17 : decode cX2_forbids 17 = .ok (.invokevirtual 38, 3) := by decide +kernel
theorem dX2_forbids_170 : decode cX2_forbids 170 = .ok (.iaload, 1) := by decide +kernel
theorem dX2_forbids_171 : decode cX2_forbids 171 = .ok (.istore 7, 2) := by decide +kernel
theorem dX2_forbids_173 : decode cX2_forbids 173 = .ok (.iload 7, 2) := by decide +kernel
theorem dX2_forbids_175 : decode cX2_forbids 175 = .ok (.bipush (-8), 2) := by decide +kernel
theorem dX2_forbids_177 : decode cX2_forbids 177 = .ok (.if_icmp .lt 45, 3) := by decide +kernel
theorem dX2_forbids_180 : decode cX2_forbids 180 = .ok (.iload 5, 2) := by decide +kernel
theorem dX2_forbids_182 : decode cX2_forbids 182 = .ok (.aload_n 0, 1) := by decide +kernel
theorem dX2_forbids_183 : decode cX2_forbids 183 = .ok (.getfield 19, 3) := by decide +kernel
theorem dX2_forbids_186 : decode cX2_forbids 186 = .ok (.arraylength, 1) := by decide +kernel
theorem dX2_forbids_187 : decode cX2_forbids 187 = .ok (.if_icmp .ge 109, 3) := by decide +kernel
theorem dX2_forbids_190 : decode cX2_forbids 190 = .ok (.aload_n 0, 1) := by decide +kernel
theorem dX2_forbids_191 : decode cX2_forbids 191 = .ok (.getfield 19, 3) := by decide +kernel
theorem dX2_forbids_194 : decode cX2_forbids 194 = .ok (.iload 5, 2) := by decide +kernel
theorem dX2_forbids_196 : decode cX2_forbids 196 = .ok (.iload 7, 2) := by decide +kernel
theorem dX2_forbids_198 : decode cX2_forbids 198 = .ok (.ifCond .lt 8, 3) := by decide +kernel
theorem dX2_forbids_20 : decode cX2_forbids 20 = .ok (.ifCond .eq 7, 3) := by decide +kernel
theorem dX2_forbids_201 : decode cX2_forbids 201 = .ok (.iload 7, 2) := by decide +kernel
theorem dX2_forbids_203 : decode cX2_forbids 203 = .ok (.goto 12, 3) := by decide +kernel
theorem dX2_forbids_206 : decode cX2_forbids 206 = .ok (.aload_n 0, 1) := by decide +kernel
theorem dX2_forbids_207 : decode cX2_forbids 207 = .ok (.getfield 22, 3) := by decide +kernel
theorem dX2_forbids_210 : decode cX2_forbids 210 = .ok (.iconst (-1), 1) := by decide +kernel
theorem dX2_forbids_211 : decode cX2_forbids 211 = .ok (.iload 7, 2) := by decide +kernel
theorem dX2_forbids_213 : decode cX2_forbids 213 = .ok (.isub, 1) := by decide +kernel
theorem dX2_forbids_214 : decode cX2_forbids 214 = .ok (.iaload, 1) := by decide +kernel
theorem dX2_forbids_215 : decode cX2_forbids 215 = .ok (.iastore, 1) := by decide +kernel
theorem dX2_forbids_216 : decode cX2_forbids 216 = .ok (.iinc 5 1, 3) := by decide +kernel
theorem dX2_forbids_219 : decode cX2_forbids 219 = .ok (.goto 77, 3) := by decide +kernel
theorem dX2_forbids_222 : decode cX2_forbids 222 = .ok (.iload 7, 2) := by decide +kernel
theorem dX2_forbids_224 : decode cX2_forbids 224 = .ok (.bipush (-9), 2) := by decide +kernel
theorem dX2_forbids_226 : decode cX2_forbids 226 = .ok (.if_icmp .ne 31, 3) := by decide +kernel
theorem dX2_forbids_229 : decode cX2_forbids 229 = .ok (.iload 5, 2) := by decide +kernel
theorem dX2_forbids_23 : decode cX2_forbids 23 = .ok (.iconst 1, 1) := by decide +kernel
theorem dX2_forbids_231 : decode cX2_forbids 231 = .ok (.ifCond .le 65, 3) := by decide +kernel
theorem dX2_forbids_234 : decode cX2_forbids 234 = .ok (.aload_n 0, 1) := by decide +kernel
theorem dX2_forbids_235 : decode cX2_forbids 235 = .ok (.getfield 19, 3) := by decide +kernel
theorem dX2_forbids_238 : decode cX2_forbids 238 = .ok (.iload 5, 2) := by decide +kernel
theorem dX2_forbids_24 : decode cX2_forbids 24 = .ok (.goto 4, 3) := by decide +kernel
theorem dX2_forbids_240 : decode cX2_forbids 240 = .ok (.iconst 1, 1) := by decide +kernel
theorem dX2_forbids_241 : decode cX2_forbids 241 = .ok (.isub, 1) := by decide +kernel
theorem dX2_forbids_242 : decode cX2_forbids 242 = .ok (.iconst 1, 1) := by decide +kernel
theorem dX2_forbids_243 : decode cX2_forbids 243 = .ok (.aload_n 0, 1) := by decide +kernel
theorem dX2_forbids_244 : decode cX2_forbids 244 = .ok (.getfield 19, 3) := by decide +kernel
theorem dX2_forbids_247 : decode cX2_forbids 247 = .ok (.iload 5, 2) := by decide +kernel
theorem dX2_forbids_249 : decode cX2_forbids 249 = .ok (.iconst 1, 1) := by decide +kernel
theorem dX2_forbids_250 : decode cX2_forbids 250 = .ok (.isub, 1) := by decide +kernel
theorem dX2_forbids_251 : decode cX2_forbids 251 = .ok (.iaload, 1) := by decide +kernel
theorem dX2_forbids_252 : decode cX2_forbids 252 = .ok (.isub, 1) := by decide +kernel
theorem dX2_forbids_253 : decode cX2_forbids 253 = .ok (.iastore, 1) := by decide +kernel
theorem dX2_forbids_254 : decode cX2_forbids 254 = .ok (.goto 42, 3) := by decide +kernel
theorem dX2_forbids_257 : decode cX2_forbids 257 = .ok (.iload 5, 2) := by decide +kernel
theorem dX2_forbids_259 : decode cX2_forbids 259 = .ok (.iconst 1, 1) := by decide +kernel
theorem dX2_forbids_260 : decode cX2_forbids 260 = .ok (.if_icmp .le 36, 3) := by decide +kernel
theorem dX2_forbids_263 : decode cX2_forbids 263 = .ok (.iinc 5 (-1), 3) := by decide +kernel
theorem dX2_forbids_266 : decode cX2_forbids 266 = .ok (.aload_n 0, 1) := by decide +kernel
theorem dX2_forbids_267 : decode cX2_forbids 267 = .ok (.getfield 19, 3) := by decide +kernel
theorem dX2_forbids_27 : decode cX2_forbids 27 = .ok (.iconst 0, 1) := by decide +kernel
theorem dX2_forbids_270 : decode cX2_forbids 270 = .ok (.iload 5, 2) := by decide +kernel
theorem dX2_forbids_272 : decode cX2_forbids 272 = .ok (.iconst 1, 1) := by decide +kernel
theorem dX2_forbids_273 : decode cX2_forbids 273 = .ok (.isub, 1) := by decide +kernel
theorem dX2_forbids_274 : decode cX2_forbids 274 = .ok (.iload 7, 2) := by decide +kernel
theorem dX2_forbids_276 : decode cX2_forbids 276 = .ok (.aload_n 0, 1) := by decide +kernel
theorem dX2_forbids_277 : decode cX2_forbids 277 = .ok (.getfield 19, 3) := by decide +kernel
theorem dX2_forbids_28 : decode cX2_forbids 28 = .ok (.ireturn, 1) := by decide +kernel
theorem dX2_forbids_280 : decode cX2_forbids 280 = .ok (.iload 5, 2) := by decide +kernel
theorem dX2_forbids_282 : decode cX2_forbids 282 = .ok (.iconst 1, 1) := by decide +kernel
theorem dX2_forbids_283 : decode cX2_forbids 283 = .ok (.isub, 1) := by decide +kernel
theorem dX2_forbids_284 : decode cX2_forbids 284 = .ok (.iaload, 1) := by decide +kernel
theorem dX2_forbids_285 : decode cX2_forbids 285 = .ok (.aload_n 0, 1) := by decide +kernel
theorem dX2_forbids_286 : decode cX2_forbids 286 = .ok (.getfield 19, 3) := by decide +kernel
theorem dX2_forbids_289 : decode cX2_forbids 289 = .ok (.iload 5, 2) := by decide +kernel
theorem dX2_forbids_29 : decode cX2_forbids 29 = .ok (.aload_n 0, 1) := by decide +kernel
theorem dX2_forbids_291 : decode cX2_forbids 291 = .ok (.iaload, 1) := by decide +kernel
theorem dX2_forbids_292 : decode cX2_forbids 292 = .ok (.invokestatic 49, 3) := by decide +kernel
theorem dX2_forbids_295 : decode cX2_forbids 295 = .ok (.iastore, 1) := by decide +kernel
theorem dX2_forbids_296 : decode cX2_forbids 296 = .ok (.iinc 6 1, 3) := by decide +kernel
theorem dX2_forbids_299 : decode cX2_forbids 299 = .ok (.goto (-144), 3) := by decide +kernel
theorem dX2_forbids_30 : decode cX2_forbids 30 = .ok (.iconst (-1), 1) := by decide +kernel
theorem dX2_forbids_302 : decode cX2_forbids 302 = .ok (.iload 5, 2) := by decide +kernel
theorem dX2_forbids_304 : decode cX2_forbids 304 = .ok (.ifCond .le 16, 3) := by decide +kernel
theorem dX2_forbids_307 : decode cX2_forbids 307 = .ok (.aload_n 0, 1) := by decide +kernel
theorem dX2_forbids_308 : decode cX2_forbids 308 = .ok (.getfield 19, 3) := by decide +kernel
theorem dX2_forbids_31 : decode cX2_forbids 31 = .ok (.iload_n 1, 1) := by decide +kernel
theorem dX2_forbids_311 : decode cX2_forbids 311 = .ok (.iconst 0, 1) := by decide +kernel
theorem dX2_forbids_312 : decode cX2_forbids 312 = .ok (.iaload, 1) := by decide +kernel
theorem dX2_forbids_313 : decode cX2_forbids 313 = .ok (.ifCond .ne 7, 3) := by decide +kernel
theorem dX2_forbids_316 : decode cX2_forbids 316 = .ok (.iconst 1, 1) := by decide +kernel
theorem dX2_forbids_317 : decode cX2_forbids 317 = .ok (.goto 4, 3) := by decide +kernel
theorem dX2_forbids_32 : decode cX2_forbids 32 = .ok (.invokevirtual 42, 3) := by decide +kernel
theorem dX2_forbids_320 : decode cX2_forbids 320 = .ok (.iconst 0, 1) := by decide +kernel
theorem dX2_forbids_321 : decode cX2_forbids 321 = .ok (.ireturn, 1) := by decide +kernel
theorem dX2_forbids_35 : decode cX2_forbids 35 = .ok (.aload_n 0, 1) := by decide +kernel
theorem dX2_forbids_36 : decode cX2_forbids 36 = .ok (.bipush (-2), 2) := by decide +kernel
theorem dX2_forbids_38 : decode cX2_forbids 38 = .ok (.iload_n 2, 1) := by decide +kernel
theorem dX2_forbids_39 : decode cX2_forbids 39 = .ok (.invokevirtual 42, 3) := by decide +kernel
theorem dX2_forbids_4 : decode cX2_forbids 4 = .ok (.ifCond .ne 25, 3) := by decide +kernel
theorem dX2_forbids_42 : decode cX2_forbids 42 = .ok (.aload_n 0, 1) := by decide +kernel
theorem dX2_forbids_43 : decode cX2_forbids 43 = .ok (.bipush (-3), 2) := by decide +kernel
theorem dX2_forbids_45 : decode cX2_forbids 45 = .ok (.aload_n 0, 1) := by decide +kernel
theorem dX2_forbids_46 : decode cX2_forbids 46 = .ok (.iload_n 1, 1) := by decide +kernel
theorem dX2_forbids_47 : decode cX2_forbids 47 = .ok (.invokevirtual 38, 3) := by decide +kernel
theorem dX2_forbids_50 : decode cX2_forbids 50 = .ok (.ifCond .eq 7, 3) := by decide +kernel
theorem dX2_forbids_53 : decode cX2_forbids 53 = .ok (.iconst 1, 1) := by decide +kernel
theorem dX2_forbids_54 : decode cX2_forbids 54 = .ok (.goto 4, 3) := by decide +kernel
theorem dX2_forbids_57 : decode cX2_forbids 57 = .ok (.iconst 0, 1) := by decide +kernel
theorem dX2_forbids_58 : decode cX2_forbids 58 = .ok (.invokevirtual 42, 3) := by decide +kernel
theorem dX2_forbids_61 : decode cX2_forbids 61 = .ok (.aload_n 0, 1) := by decide +kernel
theorem dX2_forbids_62 : decode cX2_forbids 62 = .ok (.bipush (-4), 2) := by decide +kernel
theorem dX2_forbids_64 : decode cX2_forbids 64 = .ok (.aload_n 0, 1) := by decide +kernel
theorem dX2_forbids_65 : decode cX2_forbids 65 = .ok (.iload_n 2, 1) := by decide +kernel
theorem dX2_forbids_66 : decode cX2_forbids 66 = .ok (.invokevirtual 38, 3) := by decide +kernel
theorem dX2_forbids_69 : decode cX2_forbids 69 = .ok (.ifCond .eq 7, 3) := by decide +kernel
theorem dX2_forbids_7 : decode cX2_forbids 7 = .ok (.aload_n 0, 1) := by decide +kernel
theorem dX2_forbids_72 : decode cX2_forbids 72 = .ok (.iconst 1, 1) := by decide +kernel
theorem dX2_forbids_73 : decode cX2_forbids 73 = .ok (.goto 4, 3) := by decide +kernel
theorem dX2_forbids_76 : decode cX2_forbids 76 = .ok (.iconst 0, 1) := by decide +kernel
theorem dX2_forbids_77 : decode cX2_forbids 77 = .ok (.invokevirtual 42, 3) := by decide +kernel
theorem dX2_forbids_8 : decode cX2_forbids 8 = .ok (.iload_n 1, 1) := by decide +kernel
theorem dX2_forbids_80 : decode cX2_forbids 80 = .ok (.aload_n 0, 1) := by decide +kernel
theorem dX2_forbids_81 : decode cX2_forbids 81 = .ok (.bipush (-5), 2) := by decide +kernel
theorem dX2_forbids_83 : decode cX2_forbids 83 = .ok (.aload_n 0, 1) := by decide +kernel
theorem dX2_forbids_84 : decode cX2_forbids 84 = .ok (.iload_n 1, 1) := by decide +kernel
theorem dX2_forbids_85 : decode cX2_forbids 85 = .ok (.invokevirtual 46, 3) := by decide +kernel
theorem dX2_forbids_88 : decode cX2_forbids 88 = .ok (.ifCond .eq 7, 3) := by decide +kernel
theorem dX2_forbids_9 : decode cX2_forbids 9 = .ok (.invokevirtual 38, 3) := by decide +kernel
theorem dX2_forbids_91 : decode cX2_forbids 91 = .ok (.iconst 1, 1) := by decide +kernel
theorem dX2_forbids_92 : decode cX2_forbids 92 = .ok (.goto 4, 3) := by decide +kernel
theorem dX2_forbids_95 : decode cX2_forbids 95 = .ok (.iconst 0, 1) := by decide +kernel
theorem dX2_forbids_96 : decode cX2_forbids 96 = .ok (.invokevirtual 42, 3) := by decide +kernel
theorem dX2_forbids_99 : decode cX2_forbids 99 = .ok (.aload_n 0, 1) := by decide +kernel
theorem dX2_isTold_0 : decode cX2_isTold 0 = .ok (.aload_n 0, 1) := by decide +kernel
theorem dX2_isTold_1 : decode cX2_isTold 1 = .ok (.getfield 25, 3) := by decide +kernel
theorem dX2_isTold_11 : decode cX2_isTold 11 = .ok (.iconst 0, 1) := by decide +kernel
theorem dX2_isTold_12 : decode cX2_isTold 12 = .ok (.ireturn, 1) := by decide +kernel
theorem dX2_isTold_4 : decode cX2_isTold 4 = .ok (.ifCond .le 7, 3) := by decide +kernel
theorem dX2_isTold_7 : decode cX2_isTold 7 = .ok (.iconst 1, 1) := by decide +kernel
theorem dX2_isTold_8 : decode cX2_isTold 8 = .ok (.goto 4, 3) := by decide +kernel
theorem dX2_name_0 : decode cX2_name 0 = .ok (.aload_n 0, 1) := by decide +kernel
theorem dX2_name_1 : decode cX2_name 1 = .ok (.getfield 22, 3) := by decide +kernel
theorem dX2_name_4 : decode cX2_name 4 = .ok (.iconst (-1), 1) := by decide +kernel
theorem dX2_name_5 : decode cX2_name 5 = .ok (.iload_n 1, 1) := by decide +kernel
theorem dX2_name_6 : decode cX2_name 6 = .ok (.isub, 1) := by decide +kernel
theorem dX2_name_7 : decode cX2_name 7 = .ok (.iload_n 2, 1) := by decide +kernel
theorem dX2_name_8 : decode cX2_name 8 = .ok (.iastore, 1) := by decide +kernel
theorem dX2_name_9 : decode cX2_name 9 = .ok (.return_, 1) := by decide +kernel
theorem dX2_work_0 : decode cX2_work 0 = .ok (.iload_n 0, 1) := by decide +kernel
theorem dX2_work_1 : decode cX2_work 1 = .ok (.tableswitch 123 (-16) (-10) #[119, 108, 97, 86, 65, 54, 43], 43) := by decide +kernel
theorem dX2_work_100 : decode cX2_work 100 = .ok (.if_icmp .ge 7, 3) := by decide +kernel
theorem dX2_work_103 : decode cX2_work 103 = .ok (.iconst 1, 1) := by decide +kernel
theorem dX2_work_104 : decode cX2_work 104 = .ok (.goto 4, 3) := by decide +kernel
theorem dX2_work_107 : decode cX2_work 107 = .ok (.iconst 0, 1) := by decide +kernel
theorem dX2_work_108 : decode cX2_work 108 = .ok (.ireturn, 1) := by decide +kernel
theorem dX2_work_109 : decode cX2_work 109 = .ok (.iload_n 1, 1) := by decide +kernel
theorem dX2_work_110 : decode cX2_work 110 = .ok (.iload_n 2, 1) := by decide +kernel
theorem dX2_work_111 : decode cX2_work 111 = .ok (.if_icmp .le 7, 3) := by decide +kernel
theorem dX2_work_114 : decode cX2_work 114 = .ok (.iconst 1, 1) := by decide +kernel
theorem dX2_work_115 : decode cX2_work 115 = .ok (.goto 4, 3) := by decide +kernel
theorem dX2_work_118 : decode cX2_work 118 = .ok (.iconst 0, 1) := by decide +kernel
theorem dX2_work_119 : decode cX2_work 119 = .ok (.ireturn, 1) := by decide +kernel
theorem dX2_work_120 : decode cX2_work 120 = .ok (.iload_n 1, 1) := by decide +kernel
theorem dX2_work_121 : decode cX2_work 121 = .ok (.iload_n 2, 1) := by decide +kernel
theorem dX2_work_122 : decode cX2_work 122 = .ok (.iand, 1) := by decide +kernel
theorem dX2_work_123 : decode cX2_work 123 = .ok (.ireturn, 1) := by decide +kernel
theorem dX2_work_124 : decode cX2_work 124 = .ok (.iload_n 1, 1) := by decide +kernel
theorem dX2_work_125 : decode cX2_work 125 = .ok (.iload_n 2, 1) := by decide +kernel
theorem dX2_work_126 : decode cX2_work 126 = .ok (.ior, 1) := by decide +kernel
theorem dX2_work_127 : decode cX2_work 127 = .ok (.ireturn, 1) := by decide +kernel
theorem dX2_work_44 : decode cX2_work 44 = .ok (.iload_n 1, 1) := by decide +kernel
theorem dX2_work_45 : decode cX2_work 45 = .ok (.iload_n 2, 1) := by decide +kernel
theorem dX2_work_46 : decode cX2_work 46 = .ok (.iadd, 1) := by decide +kernel
theorem dX2_work_47 : decode cX2_work 47 = .ok (.ldc 53, 2) := by decide +kernel
theorem dX2_work_49 : decode cX2_work 49 = .ok (.ldc 54, 2) := by decide +kernel
theorem dX2_work_51 : decode cX2_work 51 = .ok (.invokestatic 55, 3) := by decide +kernel
theorem dX2_work_54 : decode cX2_work 54 = .ok (.ireturn, 1) := by decide +kernel
theorem dX2_work_55 : decode cX2_work 55 = .ok (.iload_n 1, 1) := by decide +kernel
theorem dX2_work_56 : decode cX2_work 56 = .ok (.iload_n 2, 1) := by decide +kernel
theorem dX2_work_57 : decode cX2_work 57 = .ok (.isub, 1) := by decide +kernel
theorem dX2_work_58 : decode cX2_work 58 = .ok (.ldc 53, 2) := by decide +kernel
theorem dX2_work_60 : decode cX2_work 60 = .ok (.ldc 54, 2) := by decide +kernel
theorem dX2_work_62 : decode cX2_work 62 = .ok (.invokestatic 55, 3) := by decide +kernel
theorem dX2_work_65 : decode cX2_work 65 = .ok (.ireturn, 1) := by decide +kernel
theorem dX2_work_66 : decode cX2_work 66 = .ok (.iload_n 1, 1) := by decide +kernel
theorem dX2_work_67 : decode cX2_work 67 = .ok (.i2l, 1) := by decide +kernel
theorem dX2_work_68 : decode cX2_work 68 = .ok (.iload_n 2, 1) := by decide +kernel
theorem dX2_work_69 : decode cX2_work 69 = .ok (.i2l, 1) := by decide +kernel
theorem dX2_work_70 : decode cX2_work 70 = .ok (.lmul, 1) := by decide +kernel
theorem dX2_work_71 : decode cX2_work 71 = .ok (.lstore_n 3, 1) := by decide +kernel
theorem dX2_work_72 : decode cX2_work 72 = .ok (.ldc2_w 58, 3) := by decide +kernel
theorem dX2_work_75 : decode cX2_work 75 = .ok (.ldc2_w 60, 3) := by decide +kernel
theorem dX2_work_78 : decode cX2_work 78 = .ok (.lload_n 3, 1) := by decide +kernel
theorem dX2_work_79 : decode cX2_work 79 = .ok (.invokestatic 62, 3) := by decide +kernel
theorem dX2_work_82 : decode cX2_work 82 = .ok (.invokestatic 68, 3) := by decide +kernel
theorem dX2_work_85 : decode cX2_work 85 = .ok (.l2i, 1) := by decide +kernel
theorem dX2_work_86 : decode cX2_work 86 = .ok (.ireturn, 1) := by decide +kernel
theorem dX2_work_87 : decode cX2_work 87 = .ok (.iload_n 1, 1) := by decide +kernel
theorem dX2_work_88 : decode cX2_work 88 = .ok (.iload_n 2, 1) := by decide +kernel
theorem dX2_work_89 : decode cX2_work 89 = .ok (.if_icmp .ne 7, 3) := by decide +kernel
theorem dX2_work_92 : decode cX2_work 92 = .ok (.iconst 1, 1) := by decide +kernel
theorem dX2_work_93 : decode cX2_work 93 = .ok (.goto 4, 3) := by decide +kernel
theorem dX2_work_96 : decode cX2_work 96 = .ok (.iconst 0, 1) := by decide +kernel
theorem dX2_work_97 : decode cX2_work 97 = .ok (.ireturn, 1) := by decide +kernel
theorem dX2_work_98 : decode cX2_work 98 = .ok (.iload_n 1, 1) := by decide +kernel
theorem dX2_work_99 : decode cX2_work 99 = .ok (.iload_n 2, 1) := by decide +kernel
theorem dX4_keep_0 : decode cX4_keep 0 = .ok (.aload_n 0, 1) := by decide +kernel
theorem dX4_keep_1 : decode cX4_keep 1 = .ok (.aload_n 0, 1) := by decide +kernel
theorem dX4_keep_10 : decode cX4_keep 10 = .ok (.putfield 21, 3) := by decide +kernel
theorem dX4_keep_13 : decode cX4_keep 13 = .ok (.aload_n 1, 1) := by decide +kernel
theorem dX4_keep_14 : decode cX4_keep 14 = .ok (.aload_n 0, 1) := by decide +kernel
theorem dX4_keep_15 : decode cX4_keep 15 = .ok (.getfield 11, 3) := by decide +kernel
theorem dX4_keep_18 : decode cX4_keep 18 = .ok (.aload_n 0, 1) := by decide +kernel
theorem dX4_keep_19 : decode cX4_keep 19 = .ok (.getfield 21, 3) := by decide +kernel
theorem dX4_keep_2 : decode cX4_keep 2 = .ok (.getfield 21, 3) := by decide +kernel
theorem dX4_keep_22 : decode cX4_keep 22 = .ok (.bipush 34, 2) := by decide +kernel
theorem dX4_keep_24 : decode cX4_keep 24 = .ok (.imul, 1) := by decide +kernel
theorem dX4_keep_25 : decode cX4_keep 25 = .ok (.invokevirtual 24, 3) := by decide +kernel
theorem dX4_keep_28 : decode cX4_keep 28 = .ok (.aload_n 0, 1) := by decide +kernel
theorem dX4_keep_29 : decode cX4_keep 29 = .ok (.aload_n 0, 1) := by decide +kernel
theorem dX4_keep_30 : decode cX4_keep 30 = .ok (.getfield 17, 3) := by decide +kernel
theorem dX4_keep_33 : decode cX4_keep 33 = .ok (.iconst 1, 1) := by decide +kernel
theorem dX4_keep_34 : decode cX4_keep 34 = .ok (.iadd, 1) := by decide +kernel
theorem dX4_keep_35 : decode cX4_keep 35 = .ok (.bipush 12, 2) := by decide +kernel
theorem dX4_keep_37 : decode cX4_keep 37 = .ok (.invokestatic 28, 3) := by decide +kernel
theorem dX4_keep_40 : decode cX4_keep 40 = .ok (.putfield 17, 3) := by decide +kernel
theorem dX4_keep_43 : decode cX4_keep 43 = .ok (.return_, 1) := by decide +kernel
theorem dX4_keep_5 : decode cX4_keep 5 = .ok (.iconst 1, 1) := by decide +kernel
theorem dX4_keep_6 : decode cX4_keep 6 = .ok (.iadd, 1) := by decide +kernel
theorem dX4_keep_7 : decode cX4_keep 7 = .ok (.bipush 12, 2) := by decide +kernel
theorem dX4_keep_9 : decode cX4_keep 9 = .ok (.irem, 1) := by decide +kernel
theorem dX7_addTo_0 : decode cX7_addTo 0 = .ok (.aload_n 0, 1) := by decide +kernel
theorem dX7_addTo_1 : decode cX7_addTo 1 = .ok (.getfield 15, 3) := by decide +kernel
theorem dX7_addTo_10 : decode cX7_addTo 10 = .ok (.iaload, 1) := by decide +kernel
theorem dX7_addTo_11 : decode cX7_addTo 11 = .ok (.iload_n 2, 1) := by decide +kernel
theorem dX7_addTo_12 : decode cX7_addTo 12 = .ok (.iadd, 1) := by decide +kernel
theorem dX7_addTo_13 : decode cX7_addTo 13 = .ok (.iconst 0, 1) := by decide +kernel
theorem dX7_addTo_14 : decode cX7_addTo 14 = .ok (.bipush 99, 2) := by decide +kernel
theorem dX7_addTo_16 : decode cX7_addTo 16 = .ok (.invokestatic 134, 3) := by decide +kernel
theorem dX7_addTo_19 : decode cX7_addTo 19 = .ok (.iastore, 1) := by decide +kernel
theorem dX7_addTo_20 : decode cX7_addTo 20 = .ok (.aload_n 0, 1) := by decide +kernel
theorem dX7_addTo_21 : decode cX7_addTo 21 = .ok (.iload_n 1, 1) := by decide +kernel
theorem dX7_addTo_22 : decode cX7_addTo 22 = .ok (.invokevirtual 40, 3) := by decide +kernel
theorem dX7_addTo_25 : decode cX7_addTo 25 = .ok (.return_, 1) := by decide +kernel
theorem dX7_addTo_4 : decode cX7_addTo 4 = .ok (.iload_n 1, 1) := by decide +kernel
theorem dX7_addTo_5 : decode cX7_addTo 5 = .ok (.aload_n 0, 1) := by decide +kernel
theorem dX7_addTo_6 : decode cX7_addTo 6 = .ok (.getfield 15, 3) := by decide +kernel
theorem dX7_addTo_9 : decode cX7_addTo 9 = .ok (.iload_n 1, 1) := by decide +kernel
theorem dX7_askLawFor_0 : decode cX7_askLawFor 0 = .ok (.iconst 0, 1) := by decide +kernel
theorem dX7_askLawFor_1 : decode cX7_askLawFor 1 = .ok (.istore_n 2, 1) := by decide +kernel
theorem dX7_askLawFor_10 : decode cX7_askLawFor 10 = .ok (.if_icmp .ge 128, 3) := by decide +kernel
theorem dX7_askLawFor_100 : decode cX7_askLawFor 100 = .ok (.iload_n 3, 1) := by decide +kernel
theorem dX7_askLawFor_101 : decode cX7_askLawFor 101 = .ok (.iload 4, 2) := by decide +kernel
theorem dX7_askLawFor_103 : decode cX7_askLawFor 103 = .ok (.aload_n 0, 1) := by decide +kernel
theorem dX7_askLawFor_104 : decode cX7_askLawFor 104 = .ok (.getfield 24, 3) := by decide +kernel
theorem dX7_askLawFor_107 : decode cX7_askLawFor 107 = .ok (.getfield 68, 3) := by decide +kernel
theorem dX7_askLawFor_110 : decode cX7_askLawFor 110 = .ok (.aload_n 0, 1) := by decide +kernel
theorem dX7_askLawFor_111 : decode cX7_askLawFor 111 = .ok (.getfield 15, 3) := by decide +kernel
theorem dX7_askLawFor_114 : decode cX7_askLawFor 114 = .ok (.iload_n 3, 1) := by decide +kernel
theorem dX7_askLawFor_115 : decode cX7_askLawFor 115 = .ok (.iaload, 1) := by decide +kernel
theorem dX7_askLawFor_116 : decode cX7_askLawFor 116 = .ok (.aload_n 0, 1) := by decide +kernel
theorem dX7_askLawFor_117 : decode cX7_askLawFor 117 = .ok (.getfield 15, 3) := by decide +kernel
theorem dX7_askLawFor_120 : decode cX7_askLawFor 120 = .ok (.iload 4, 2) := by decide +kernel
theorem dX7_askLawFor_122 : decode cX7_askLawFor 122 = .ok (.iaload, 1) := by decide +kernel
theorem dX7_askLawFor_123 : decode cX7_askLawFor 123 = .ok (.iload 5, 2) := by decide +kernel
theorem dX7_askLawFor_125 : decode cX7_askLawFor 125 = .ok (.iconst 1, 1) := by decide +kernel
theorem dX7_askLawFor_126 : decode cX7_askLawFor 126 = .ok (.invokevirtual 72, 3) := by decide +kernel
theorem dX7_askLawFor_129 : decode cX7_askLawFor 129 = .ok (.invokestatic 78, 3) := by decide +kernel
theorem dX7_askLawFor_13 : decode cX7_askLawFor 13 = .ok (.iload_n 2, 1) := by decide +kernel
theorem dX7_askLawFor_132 : decode cX7_askLawFor 132 = .ok (.iinc 2 1, 3) := by decide +kernel
theorem dX7_askLawFor_135 : decode cX7_askLawFor 135 = .ok (.goto (-133), 3) := by decide +kernel
theorem dX7_askLawFor_138 : decode cX7_askLawFor 138 = .ok (.return_, 1) := by decide +kernel
theorem dX7_askLawFor_14 : decode cX7_askLawFor 14 = .ok (.iload_n 1, 1) := by decide +kernel
theorem dX7_askLawFor_15 : decode cX7_askLawFor 15 = .ok (.if_icmp .eq 117, 3) := by decide +kernel
theorem dX7_askLawFor_18 : decode cX7_askLawFor 18 = .ok (.iload_n 1, 1) := by decide +kernel
theorem dX7_askLawFor_19 : decode cX7_askLawFor 19 = .ok (.iload_n 2, 1) := by decide +kernel
theorem dX7_askLawFor_2 : decode cX7_askLawFor 2 = .ok (.iload_n 2, 1) := by decide +kernel
theorem dX7_askLawFor_20 : decode cX7_askLawFor 20 = .ok (.invokestatic 56, 3) := by decide +kernel
theorem dX7_askLawFor_23 : decode cX7_askLawFor 23 = .ok (.istore_n 3, 1) := by decide +kernel
theorem dX7_askLawFor_24 : decode cX7_askLawFor 24 = .ok (.iload_n 1, 1) := by decide +kernel
theorem dX7_askLawFor_25 : decode cX7_askLawFor 25 = .ok (.iload_n 2, 1) := by decide +kernel
theorem dX7_askLawFor_26 : decode cX7_askLawFor 26 = .ok (.invokestatic 62, 3) := by decide +kernel
theorem dX7_askLawFor_29 : decode cX7_askLawFor 29 = .ok (.istore 4, 2) := by decide +kernel
theorem dX7_askLawFor_3 : decode cX7_askLawFor 3 = .ok (.aload_n 0, 1) := by decide +kernel
theorem dX7_askLawFor_31 : decode cX7_askLawFor 31 = .ok (.aload_n 0, 1) := by decide +kernel
theorem dX7_askLawFor_32 : decode cX7_askLawFor 32 = .ok (.getfield 24, 3) := by decide +kernel
theorem dX7_askLawFor_35 : decode cX7_askLawFor 35 = .ok (.getfield 65, 3) := by decide +kernel
theorem dX7_askLawFor_38 : decode cX7_askLawFor 38 = .ok (.iload_n 3, 1) := by decide +kernel
theorem dX7_askLawFor_39 : decode cX7_askLawFor 39 = .ok (.iaload, 1) := by decide +kernel
theorem dX7_askLawFor_4 : decode cX7_askLawFor 4 = .ok (.getfield 24, 3) := by decide +kernel
theorem dX7_askLawFor_40 : decode cX7_askLawFor 40 = .ok (.aload_n 0, 1) := by decide +kernel
theorem dX7_askLawFor_41 : decode cX7_askLawFor 41 = .ok (.getfield 24, 3) := by decide +kernel
theorem dX7_askLawFor_44 : decode cX7_askLawFor 44 = .ok (.getfield 65, 3) := by decide +kernel
theorem dX7_askLawFor_47 : decode cX7_askLawFor 47 = .ok (.iload 4, 2) := by decide +kernel
theorem dX7_askLawFor_49 : decode cX7_askLawFor 49 = .ok (.iaload, 1) := by decide +kernel
theorem dX7_askLawFor_50 : decode cX7_askLawFor 50 = .ok (.if_icmp .ne 7, 3) := by decide +kernel
theorem dX7_askLawFor_53 : decode cX7_askLawFor 53 = .ok (.iconst 1, 1) := by decide +kernel
theorem dX7_askLawFor_54 : decode cX7_askLawFor 54 = .ok (.goto 4, 3) := by decide +kernel
theorem dX7_askLawFor_57 : decode cX7_askLawFor 57 = .ok (.iconst 0, 1) := by decide +kernel
theorem dX7_askLawFor_58 : decode cX7_askLawFor 58 = .ok (.istore 5, 2) := by decide +kernel
theorem dX7_askLawFor_60 : decode cX7_askLawFor 60 = .ok (.aload_n 0, 1) := by decide +kernel
theorem dX7_askLawFor_61 : decode cX7_askLawFor 61 = .ok (.getfield 18, 3) := by decide +kernel
theorem dX7_askLawFor_64 : decode cX7_askLawFor 64 = .ok (.iload_n 3, 1) := by decide +kernel
theorem dX7_askLawFor_65 : decode cX7_askLawFor 65 = .ok (.iload 4, 2) := by decide +kernel
theorem dX7_askLawFor_67 : decode cX7_askLawFor 67 = .ok (.aload_n 0, 1) := by decide +kernel
theorem dX7_askLawFor_68 : decode cX7_askLawFor 68 = .ok (.getfield 24, 3) := by decide +kernel
theorem dX7_askLawFor_7 : decode cX7_askLawFor 7 = .ok (.getfield 28, 3) := by decide +kernel
theorem dX7_askLawFor_71 : decode cX7_askLawFor 71 = .ok (.getfield 68, 3) := by decide +kernel
theorem dX7_askLawFor_74 : decode cX7_askLawFor 74 = .ok (.aload_n 0, 1) := by decide +kernel
theorem dX7_askLawFor_75 : decode cX7_askLawFor 75 = .ok (.getfield 15, 3) := by decide +kernel
theorem dX7_askLawFor_78 : decode cX7_askLawFor 78 = .ok (.iload_n 3, 1) := by decide +kernel
theorem dX7_askLawFor_79 : decode cX7_askLawFor 79 = .ok (.iaload, 1) := by decide +kernel
theorem dX7_askLawFor_80 : decode cX7_askLawFor 80 = .ok (.aload_n 0, 1) := by decide +kernel
theorem dX7_askLawFor_81 : decode cX7_askLawFor 81 = .ok (.getfield 15, 3) := by decide +kernel
theorem dX7_askLawFor_84 : decode cX7_askLawFor 84 = .ok (.iload 4, 2) := by decide +kernel
theorem dX7_askLawFor_86 : decode cX7_askLawFor 86 = .ok (.iaload, 1) := by decide +kernel
theorem dX7_askLawFor_87 : decode cX7_askLawFor 87 = .ok (.iload 5, 2) := by decide +kernel
theorem dX7_askLawFor_89 : decode cX7_askLawFor 89 = .ok (.iconst 0, 1) := by decide +kernel
theorem dX7_askLawFor_90 : decode cX7_askLawFor 90 = .ok (.invokevirtual 72, 3) := by decide +kernel
theorem dX7_askLawFor_93 : decode cX7_askLawFor 93 = .ok (.invokestatic 78, 3) := by decide +kernel
theorem dX7_askLawFor_96 : decode cX7_askLawFor 96 = .ok (.aload_n 0, 1) := by decide +kernel
theorem dX7_askLawFor_97 : decode cX7_askLawFor 97 = .ok (.getfield 21, 3) := by decide +kernel
theorem dX7_load_0 : decode cX7_load 0 = .ok (.iload_n 2, 1) := by decide +kernel
theorem dX7_load_1 : decode cX7_load 1 = .ok (.ifCond .lt 12, 3) := by decide +kernel
theorem dX7_load_10 : decode cX7_load 10 = .ok (.if_icmp .le 4, 3) := by decide +kernel
theorem dX7_load_13 : decode cX7_load 13 = .ok (.return_, 1) := by decide +kernel
theorem dX7_load_14 : decode cX7_load 14 = .ok (.aload_n 1, 1) := by decide +kernel
theorem dX7_load_15 : decode cX7_load 15 = .ok (.iload_n 2, 1) := by decide +kernel
theorem dX7_load_16 : decode cX7_load 16 = .ok (.aload_n 0, 1) := by decide +kernel
theorem dX7_load_17 : decode cX7_load 17 = .ok (.getfield 9, 3) := by decide +kernel
theorem dX7_load_20 : decode cX7_load 20 = .ok (.iconst 0, 1) := by decide +kernel
theorem dX7_load_21 : decode cX7_load 21 = .ok (.bipush 8, 2) := by decide +kernel
theorem dX7_load_23 : decode cX7_load 23 = .ok (.invokestatic 50, 3) := by decide +kernel
theorem dX7_load_26 : decode cX7_load 26 = .ok (.aload_n 1, 1) := by decide +kernel
theorem dX7_load_27 : decode cX7_load 27 = .ok (.iload_n 2, 1) := by decide +kernel
theorem dX7_load_28 : decode cX7_load 28 = .ok (.bipush 8, 2) := by decide +kernel
theorem dX7_load_30 : decode cX7_load 30 = .ok (.iadd, 1) := by decide +kernel
theorem dX7_load_31 : decode cX7_load 31 = .ok (.aload_n 0, 1) := by decide +kernel
theorem dX7_load_32 : decode cX7_load 32 = .ok (.getfield 15, 3) := by decide +kernel
theorem dX7_load_35 : decode cX7_load 35 = .ok (.iconst 0, 1) := by decide +kernel
theorem dX7_load_36 : decode cX7_load 36 = .ok (.bipush 8, 2) := by decide +kernel
theorem dX7_load_38 : decode cX7_load 38 = .ok (.invokestatic 50, 3) := by decide +kernel
theorem dX7_load_4 : decode cX7_load 4 = .ok (.iload_n 2, 1) := by decide +kernel
theorem dX7_load_41 : decode cX7_load 41 = .ok (.aload_n 1, 1) := by decide +kernel
theorem dX7_load_42 : decode cX7_load 42 = .ok (.iload_n 2, 1) := by decide +kernel
theorem dX7_load_43 : decode cX7_load 43 = .ok (.bipush 16, 2) := by decide +kernel
theorem dX7_load_45 : decode cX7_load 45 = .ok (.iadd, 1) := by decide +kernel
theorem dX7_load_46 : decode cX7_load 46 = .ok (.aload_n 0, 1) := by decide +kernel
theorem dX7_load_47 : decode cX7_load 47 = .ok (.getfield 18, 3) := by decide +kernel
theorem dX7_load_5 : decode cX7_load 5 = .ok (.aload_n 1, 1) := by decide +kernel
theorem dX7_load_50 : decode cX7_load 50 = .ok (.iconst 0, 1) := by decide +kernel
theorem dX7_load_51 : decode cX7_load 51 = .ok (.bipush 8, 2) := by decide +kernel
theorem dX7_load_53 : decode cX7_load 53 = .ok (.invokestatic 50, 3) := by decide +kernel
theorem dX7_load_56 : decode cX7_load 56 = .ok (.aload_n 1, 1) := by decide +kernel
theorem dX7_load_57 : decode cX7_load 57 = .ok (.iload_n 2, 1) := by decide +kernel
theorem dX7_load_58 : decode cX7_load 58 = .ok (.bipush 24, 2) := by decide +kernel
theorem dX7_load_6 : decode cX7_load 6 = .ok (.arraylength, 1) := by decide +kernel
theorem dX7_load_60 : decode cX7_load 60 = .ok (.iadd, 1) := by decide +kernel
theorem dX7_load_61 : decode cX7_load 61 = .ok (.aload_n 0, 1) := by decide +kernel
theorem dX7_load_62 : decode cX7_load 62 = .ok (.getfield 21, 3) := by decide +kernel
theorem dX7_load_65 : decode cX7_load 65 = .ok (.iconst 0, 1) := by decide +kernel
theorem dX7_load_66 : decode cX7_load 66 = .ok (.bipush 8, 2) := by decide +kernel
theorem dX7_load_68 : decode cX7_load 68 = .ok (.invokestatic 50, 3) := by decide +kernel
theorem dX7_load_7 : decode cX7_load 7 = .ok (.bipush 34, 2) := by decide +kernel
theorem dX7_load_71 : decode cX7_load 71 = .ok (.aload_n 0, 1) := by decide +kernel
theorem dX7_load_72 : decode cX7_load 72 = .ok (.aload_n 1, 1) := by decide +kernel
theorem dX7_load_73 : decode cX7_load 73 = .ok (.iload_n 2, 1) := by decide +kernel
theorem dX7_load_74 : decode cX7_load 74 = .ok (.bipush 34, 2) := by decide +kernel
theorem dX7_load_76 : decode cX7_load 76 = .ok (.iadd, 1) := by decide +kernel
theorem dX7_load_77 : decode cX7_load 77 = .ok (.iconst 2, 1) := by decide +kernel
theorem dX7_load_78 : decode cX7_load 78 = .ok (.isub, 1) := by decide +kernel
theorem dX7_load_79 : decode cX7_load 79 = .ok (.iaload, 1) := by decide +kernel
theorem dX7_load_80 : decode cX7_load 80 = .ok (.putfield 44, 3) := by decide +kernel
theorem dX7_load_83 : decode cX7_load 83 = .ok (.aload_n 0, 1) := by decide +kernel
theorem dX7_load_84 : decode cX7_load 84 = .ok (.aload_n 1, 1) := by decide +kernel
theorem dX7_load_85 : decode cX7_load 85 = .ok (.iload_n 2, 1) := by decide +kernel
theorem dX7_load_86 : decode cX7_load 86 = .ok (.bipush 34, 2) := by decide +kernel
theorem dX7_load_88 : decode cX7_load 88 = .ok (.iadd, 1) := by decide +kernel
theorem dX7_load_89 : decode cX7_load 89 = .ok (.iconst 1, 1) := by decide +kernel
theorem dX7_load_9 : decode cX7_load 9 = .ok (.isub, 1) := by decide +kernel
theorem dX7_load_90 : decode cX7_load 90 = .ok (.isub, 1) := by decide +kernel
theorem dX7_load_91 : decode cX7_load 91 = .ok (.iaload, 1) := by decide +kernel
theorem dX7_load_92 : decode cX7_load 92 = .ok (.putfield 47, 3) := by decide +kernel
theorem dX7_load_95 : decode cX7_load 95 = .ok (.return_, 1) := by decide +kernel
theorem dX7_mark_0 : decode cX7_mark 0 = .ok (.aload_n 0, 1) := by decide +kernel
theorem dX7_mark_1 : decode cX7_mark 1 = .ok (.iload_n 1, 1) := by decide +kernel
theorem dX7_mark_10 : decode cX7_mark 10 = .ok (.iload_n 2, 1) := by decide +kernel
theorem dX7_mark_11 : decode cX7_mark 11 = .ok (.ishl, 1) := by decide +kernel
theorem dX7_mark_12 : decode cX7_mark 12 = .ok (.ior, 1) := by decide +kernel
theorem dX7_mark_13 : decode cX7_mark 13 = .ok (.goto 12, 3) := by decide +kernel
theorem dX7_mark_16 : decode cX7_mark 16 = .ok (.aload_n 0, 1) := by decide +kernel
theorem dX7_mark_17 : decode cX7_mark 17 = .ok (.iload_n 1, 1) := by decide +kernel
theorem dX7_mark_18 : decode cX7_mark 18 = .ok (.iaload, 1) := by decide +kernel
theorem dX7_mark_19 : decode cX7_mark 19 = .ok (.iconst 1, 1) := by decide +kernel
theorem dX7_mark_2 : decode cX7_mark 2 = .ok (.iload_n 3, 1) := by decide +kernel
theorem dX7_mark_20 : decode cX7_mark 20 = .ok (.iload_n 2, 1) := by decide +kernel
theorem dX7_mark_21 : decode cX7_mark 21 = .ok (.ishl, 1) := by decide +kernel
theorem dX7_mark_22 : decode cX7_mark 22 = .ok (.iconst (-1), 1) := by decide +kernel
theorem dX7_mark_23 : decode cX7_mark 23 = .ok (.ixor, 1) := by decide +kernel
theorem dX7_mark_24 : decode cX7_mark 24 = .ok (.iand, 1) := by decide +kernel
theorem dX7_mark_25 : decode cX7_mark 25 = .ok (.iastore, 1) := by decide +kernel
theorem dX7_mark_26 : decode cX7_mark 26 = .ok (.aload_n 0, 1) := by decide +kernel
theorem dX7_mark_27 : decode cX7_mark 27 = .ok (.iload_n 2, 1) := by decide +kernel
theorem dX7_mark_28 : decode cX7_mark 28 = .ok (.iload_n 3, 1) := by decide +kernel
theorem dX7_mark_29 : decode cX7_mark 29 = .ok (.ifCond .eq 13, 3) := by decide +kernel
theorem dX7_mark_3 : decode cX7_mark 3 = .ok (.ifCond .eq 13, 3) := by decide +kernel
theorem dX7_mark_32 : decode cX7_mark 32 = .ok (.aload_n 0, 1) := by decide +kernel
theorem dX7_mark_33 : decode cX7_mark 33 = .ok (.iload_n 2, 1) := by decide +kernel
theorem dX7_mark_34 : decode cX7_mark 34 = .ok (.iaload, 1) := by decide +kernel
theorem dX7_mark_35 : decode cX7_mark 35 = .ok (.iconst 1, 1) := by decide +kernel
theorem dX7_mark_36 : decode cX7_mark 36 = .ok (.iload_n 1, 1) := by decide +kernel
theorem dX7_mark_37 : decode cX7_mark 37 = .ok (.ishl, 1) := by decide +kernel
theorem dX7_mark_38 : decode cX7_mark 38 = .ok (.ior, 1) := by decide +kernel
theorem dX7_mark_39 : decode cX7_mark 39 = .ok (.goto 12, 3) := by decide +kernel
theorem dX7_mark_42 : decode cX7_mark 42 = .ok (.aload_n 0, 1) := by decide +kernel
theorem dX7_mark_43 : decode cX7_mark 43 = .ok (.iload_n 2, 1) := by decide +kernel
theorem dX7_mark_44 : decode cX7_mark 44 = .ok (.iaload, 1) := by decide +kernel
theorem dX7_mark_45 : decode cX7_mark 45 = .ok (.iconst 1, 1) := by decide +kernel
theorem dX7_mark_46 : decode cX7_mark 46 = .ok (.iload_n 1, 1) := by decide +kernel
theorem dX7_mark_47 : decode cX7_mark 47 = .ok (.ishl, 1) := by decide +kernel
theorem dX7_mark_48 : decode cX7_mark 48 = .ok (.iconst (-1), 1) := by decide +kernel
theorem dX7_mark_49 : decode cX7_mark 49 = .ok (.ixor, 1) := by decide +kernel
theorem dX7_mark_50 : decode cX7_mark 50 = .ok (.iand, 1) := by decide +kernel
theorem dX7_mark_51 : decode cX7_mark 51 = .ok (.iastore, 1) := by decide +kernel
theorem dX7_mark_52 : decode cX7_mark 52 = .ok (.return_, 1) := by decide +kernel
theorem dX7_mark_6 : decode cX7_mark 6 = .ok (.aload_n 0, 1) := by decide +kernel
theorem dX7_mark_7 : decode cX7_mark 7 = .ok (.iload_n 1, 1) := by decide +kernel
theorem dX7_mark_8 : decode cX7_mark 8 = .ok (.iaload, 1) := by decide +kernel
theorem dX7_mark_9 : decode cX7_mark 9 = .ok (.iconst 1, 1) := by decide +kernel
theorem dX7_minutesTo_0 : decode cX7_minutesTo 0 = .ok (.aload_n 0, 1) := by decide +kernel
theorem dX7_minutesTo_1 : decode cX7_minutesTo 1 = .ok (.getfield 24, 3) := by decide +kernel
theorem dX7_minutesTo_10 : decode cX7_minutesTo 10 = .ok (.iaload, 1) := by decide +kernel
theorem dX7_minutesTo_11 : decode cX7_minutesTo 11 = .ok (.iload_n 2, 1) := by decide +kernel
theorem dX7_minutesTo_12 : decode cX7_minutesTo 12 = .ok (.invokevirtual 120, 3) := by decide +kernel
theorem dX7_minutesTo_15 : decode cX7_minutesTo 15 = .ok (.ireturn, 1) := by decide +kernel
theorem dX7_minutesTo_4 : decode cX7_minutesTo 4 = .ok (.iload_n 1, 1) := by decide +kernel
theorem dX7_minutesTo_5 : decode cX7_minutesTo 5 = .ok (.aload_n 0, 1) := by decide +kernel
theorem dX7_minutesTo_6 : decode cX7_minutesTo 6 = .ok (.getfield 9, 3) := by decide +kernel
theorem dX7_minutesTo_9 : decode cX7_minutesTo 9 = .ok (.iload_n 1, 1) := by decide +kernel
theorem dX7_obstacle_0 : decode cX7_obstacle 0 = .ok (.aload_n 0, 1) := by decide +kernel
theorem dX7_obstacle_1 : decode cX7_obstacle 1 = .ok (.getfield 24, 3) := by decide +kernel
theorem dX7_obstacle_11 : decode cX7_obstacle 11 = .ok (.aload_n 0, 1) := by decide +kernel
theorem dX7_obstacle_12 : decode cX7_obstacle 12 = .ok (.getfield 24, 3) := by decide +kernel
theorem dX7_obstacle_15 : decode cX7_obstacle 15 = .ok (.iload_n 2, 1) := by decide +kernel
theorem dX7_obstacle_16 : decode cX7_obstacle 16 = .ok (.invokevirtual 108, 3) := by decide +kernel
theorem dX7_obstacle_19 : decode cX7_obstacle 19 = .ok (.ifCond .ne 5, 3) := by decide +kernel
theorem dX7_obstacle_22 : decode cX7_obstacle 22 = .ok (.iconst 1, 1) := by decide +kernel
theorem dX7_obstacle_23 : decode cX7_obstacle 23 = .ok (.ireturn, 1) := by decide +kernel
theorem dX7_obstacle_24 : decode cX7_obstacle 24 = .ok (.aload_n 0, 1) := by decide +kernel
theorem dX7_obstacle_25 : decode cX7_obstacle 25 = .ok (.getfield 24, 3) := by decide +kernel
theorem dX7_obstacle_28 : decode cX7_obstacle 28 = .ok (.iload_n 1, 1) := by decide +kernel
theorem dX7_obstacle_29 : decode cX7_obstacle 29 = .ok (.invokevirtual 111, 3) := by decide +kernel
theorem dX7_obstacle_32 : decode cX7_obstacle 32 = .ok (.ifCond .eq 5, 3) := by decide +kernel
theorem dX7_obstacle_35 : decode cX7_obstacle 35 = .ok (.iconst 2, 1) := by decide +kernel
theorem dX7_obstacle_36 : decode cX7_obstacle 36 = .ok (.ireturn, 1) := by decide +kernel
theorem dX7_obstacle_37 : decode cX7_obstacle 37 = .ok (.aload_n 0, 1) := by decide +kernel
theorem dX7_obstacle_38 : decode cX7_obstacle 38 = .ok (.iload_n 2, 1) := by decide +kernel
theorem dX7_obstacle_39 : decode cX7_obstacle 39 = .ok (.invokevirtual 114, 3) := by decide +kernel
theorem dX7_obstacle_4 : decode cX7_obstacle 4 = .ok (.iload_n 1, 1) := by decide +kernel
theorem dX7_obstacle_42 : decode cX7_obstacle 42 = .ok (.iconst (-1), 1) := by decide +kernel
theorem dX7_obstacle_43 : decode cX7_obstacle 43 = .ok (.if_icmp .eq 5, 3) := by decide +kernel
theorem dX7_obstacle_46 : decode cX7_obstacle 46 = .ok (.iconst 3, 1) := by decide +kernel
theorem dX7_obstacle_47 : decode cX7_obstacle 47 = .ok (.ireturn, 1) := by decide +kernel
theorem dX7_obstacle_48 : decode cX7_obstacle 48 = .ok (.aload_n 0, 1) := by decide +kernel
theorem dX7_obstacle_49 : decode cX7_obstacle 49 = .ok (.getfield 24, 3) := by decide +kernel
theorem dX7_obstacle_5 : decode cX7_obstacle 5 = .ok (.invokevirtual 104, 3) := by decide +kernel
theorem dX7_obstacle_52 : decode cX7_obstacle 52 = .ok (.aload_n 0, 1) := by decide +kernel
theorem dX7_obstacle_53 : decode cX7_obstacle 53 = .ok (.getfield 9, 3) := by decide +kernel
theorem dX7_obstacle_56 : decode cX7_obstacle 56 = .ok (.iload_n 1, 1) := by decide +kernel
theorem dX7_obstacle_57 : decode cX7_obstacle 57 = .ok (.iaload, 1) := by decide +kernel
theorem dX7_obstacle_58 : decode cX7_obstacle 58 = .ok (.iload_n 2, 1) := by decide +kernel
theorem dX7_obstacle_59 : decode cX7_obstacle 59 = .ok (.invokevirtual 117, 3) := by decide +kernel
theorem dX7_obstacle_62 : decode cX7_obstacle 62 = .ok (.iconst (-1), 1) := by decide +kernel
theorem dX7_obstacle_63 : decode cX7_obstacle 63 = .ok (.if_icmp .ne 7, 3) := by decide +kernel
theorem dX7_obstacle_66 : decode cX7_obstacle 66 = .ok (.iconst 4, 1) := by decide +kernel
theorem dX7_obstacle_67 : decode cX7_obstacle 67 = .ok (.goto 4, 3) := by decide +kernel
theorem dX7_obstacle_70 : decode cX7_obstacle 70 = .ok (.iconst 0, 1) := by decide +kernel
theorem dX7_obstacle_71 : decode cX7_obstacle 71 = .ok (.ireturn, 1) := by decide +kernel
theorem dX7_obstacle_8 : decode cX7_obstacle 8 = .ok (.ifCond .eq 14, 3) := by decide +kernel
theorem dX7_passDay_0 : decode cX7_passDay 0 = .ok (.iconst 0, 1) := by decide +kernel
theorem dX7_passDay_1 : decode cX7_passDay 1 = .ok (.istore_n 1, 1) := by decide +kernel
theorem dX7_passDay_12 : decode cX7_passDay 12 = .ok (.if_icmp .ge 66, 3) := by decide +kernel
theorem dX7_passDay_15 : decode cX7_passDay 15 = .ok (.aload_n 0, 1) := by decide +kernel
theorem dX7_passDay_16 : decode cX7_passDay 16 = .ok (.getfield 24, 3) := by decide +kernel
theorem dX7_passDay_19 : decode cX7_passDay 19 = .ok (.getfield 140, 3) := by decide +kernel
theorem dX7_passDay_2 : decode cX7_passDay 2 = .ok (.iconst 0, 1) := by decide +kernel
theorem dX7_passDay_22 : decode cX7_passDay 22 = .ok (.iload_n 2, 1) := by decide +kernel
theorem dX7_passDay_23 : decode cX7_passDay 23 = .ok (.iaload, 1) := by decide +kernel
theorem dX7_passDay_24 : decode cX7_passDay 24 = .ok (.istore_n 3, 1) := by decide +kernel
theorem dX7_passDay_25 : decode cX7_passDay 25 = .ok (.aload_n 0, 1) := by decide +kernel
theorem dX7_passDay_26 : decode cX7_passDay 26 = .ok (.aload_n 0, 1) := by decide +kernel
theorem dX7_passDay_27 : decode cX7_passDay 27 = .ok (.getfield 24, 3) := by decide +kernel
theorem dX7_passDay_3 : decode cX7_passDay 3 = .ok (.istore_n 2, 1) := by decide +kernel
theorem dX7_passDay_30 : decode cX7_passDay 30 = .ok (.getfield 143, 3) := by decide +kernel
theorem dX7_passDay_33 : decode cX7_passDay 33 = .ok (.iload_n 3, 1) := by decide +kernel
theorem dX7_passDay_34 : decode cX7_passDay 34 = .ok (.iaload, 1) := by decide +kernel
theorem dX7_passDay_35 : decode cX7_passDay 35 = .ok (.iload_n 1, 1) := by decide +kernel
theorem dX7_passDay_36 : decode cX7_passDay 36 = .ok (.isub, 1) := by decide +kernel
theorem dX7_passDay_37 : decode cX7_passDay 37 = .ok (.invokevirtual 131, 3) := by decide +kernel
theorem dX7_passDay_4 : decode cX7_passDay 4 = .ok (.iload_n 2, 1) := by decide +kernel
theorem dX7_passDay_40 : decode cX7_passDay 40 = .ok (.aload_n 0, 1) := by decide +kernel
theorem dX7_passDay_41 : decode cX7_passDay 41 = .ok (.getfield 24, 3) := by decide +kernel
theorem dX7_passDay_44 : decode cX7_passDay 44 = .ok (.getfield 143, 3) := by decide +kernel
theorem dX7_passDay_47 : decode cX7_passDay 47 = .ok (.iload_n 3, 1) := by decide +kernel
theorem dX7_passDay_48 : decode cX7_passDay 48 = .ok (.iaload, 1) := by decide +kernel
theorem dX7_passDay_49 : decode cX7_passDay 49 = .ok (.istore_n 1, 1) := by decide +kernel
theorem dX7_passDay_5 : decode cX7_passDay 5 = .ok (.aload_n 0, 1) := by decide +kernel
theorem dX7_passDay_50 : decode cX7_passDay 50 = .ok (.aload_n 0, 1) := by decide +kernel
theorem dX7_passDay_51 : decode cX7_passDay 51 = .ok (.aload_n 0, 1) := by decide +kernel
theorem dX7_passDay_52 : decode cX7_passDay 52 = .ok (.getfield 24, 3) := by decide +kernel
theorem dX7_passDay_55 : decode cX7_passDay 55 = .ok (.getfield 146, 3) := by decide +kernel
theorem dX7_passDay_58 : decode cX7_passDay 58 = .ok (.iload_n 3, 1) := by decide +kernel
theorem dX7_passDay_59 : decode cX7_passDay 59 = .ok (.iaload, 1) := by decide +kernel
theorem dX7_passDay_6 : decode cX7_passDay 6 = .ok (.getfield 24, 3) := by decide +kernel
theorem dX7_passDay_60 : decode cX7_passDay 60 = .ok (.aload_n 0, 1) := by decide +kernel
theorem dX7_passDay_61 : decode cX7_passDay 61 = .ok (.getfield 24, 3) := by decide +kernel
theorem dX7_passDay_64 : decode cX7_passDay 64 = .ok (.getfield 149, 3) := by decide +kernel
theorem dX7_passDay_67 : decode cX7_passDay 67 = .ok (.iload_n 3, 1) := by decide +kernel
theorem dX7_passDay_68 : decode cX7_passDay 68 = .ok (.iaload, 1) := by decide +kernel
theorem dX7_passDay_69 : decode cX7_passDay 69 = .ok (.invokevirtual 152, 3) := by decide +kernel
theorem dX7_passDay_72 : decode cX7_passDay 72 = .ok (.iinc 2 1, 3) := by decide +kernel
theorem dX7_passDay_75 : decode cX7_passDay 75 = .ok (.goto (-71), 3) := by decide +kernel
theorem dX7_passDay_78 : decode cX7_passDay 78 = .ok (.aload_n 0, 1) := by decide +kernel
theorem dX7_passDay_79 : decode cX7_passDay 79 = .ok (.sipush 1000, 3) := by decide +kernel
theorem dX7_passDay_82 : decode cX7_passDay 82 = .ok (.iload_n 1, 1) := by decide +kernel
theorem dX7_passDay_83 : decode cX7_passDay 83 = .ok (.isub, 1) := by decide +kernel
theorem dX7_passDay_84 : decode cX7_passDay 84 = .ok (.invokevirtual 131, 3) := by decide +kernel
theorem dX7_passDay_87 : decode cX7_passDay 87 = .ok (.return_, 1) := by decide +kernel
theorem dX7_passDay_9 : decode cX7_passDay 9 = .ok (.getfield 137, 3) := by decide +kernel
theorem dX7_passTime_0 : decode cX7_passTime 0 = .ok (.aload_n 0, 1) := by decide +kernel
theorem dX7_passTime_1 : decode cX7_passTime 1 = .ok (.dup, 1) := by decide +kernel
theorem dX7_passTime_10 : decode cX7_passTime 10 = .ok (.imul, 1) := by decide +kernel
theorem dX7_passTime_11 : decode cX7_passTime 11 = .ok (.iadd, 1) := by decide +kernel
theorem dX7_passTime_12 : decode cX7_passTime 12 = .ok (.putfield 47, 3) := by decide +kernel
theorem dX7_passTime_15 : decode cX7_passTime 15 = .ok (.aload_n 0, 1) := by decide +kernel
theorem dX7_passTime_16 : decode cX7_passTime 16 = .ok (.dup, 1) := by decide +kernel
theorem dX7_passTime_17 : decode cX7_passTime 17 = .ok (.getfield 44, 3) := by decide +kernel
theorem dX7_passTime_2 : decode cX7_passTime 2 = .ok (.getfield 47, 3) := by decide +kernel
theorem dX7_passTime_20 : decode cX7_passTime 20 = .ok (.iload_n 1, 1) := by decide +kernel
theorem dX7_passTime_21 : decode cX7_passTime 21 = .ok (.iadd, 1) := by decide +kernel
theorem dX7_passTime_22 : decode cX7_passTime 22 = .ok (.putfield 44, 3) := by decide +kernel
theorem dX7_passTime_25 : decode cX7_passTime 25 = .ok (.return_, 1) := by decide +kernel
theorem dX7_passTime_5 : decode cX7_passTime 5 = .ok (.iload_n 1, 1) := by decide +kernel
theorem dX7_passTime_6 : decode cX7_passTime 6 = .ok (.aload_n 0, 1) := by decide +kernel
theorem dX7_passTime_7 : decode cX7_passTime 7 = .ok (.invokevirtual 124, 3) := by decide +kernel
theorem dX7_save_0 : decode cX7_save 0 = .ok (.iload_n 2, 1) := by decide +kernel
theorem dX7_save_1 : decode cX7_save 1 = .ok (.ifCond .lt 12, 3) := by decide +kernel
theorem dX7_save_10 : decode cX7_save 10 = .ok (.if_icmp .le 4, 3) := by decide +kernel
theorem dX7_save_13 : decode cX7_save 13 = .ok (.return_, 1) := by decide +kernel
theorem dX7_save_14 : decode cX7_save 14 = .ok (.aload_n 0, 1) := by decide +kernel
theorem dX7_save_15 : decode cX7_save 15 = .ok (.getfield 9, 3) := by decide +kernel
theorem dX7_save_18 : decode cX7_save 18 = .ok (.iconst 0, 1) := by decide +kernel
theorem dX7_save_19 : decode cX7_save 19 = .ok (.aload_n 1, 1) := by decide +kernel
theorem dX7_save_20 : decode cX7_save 20 = .ok (.iload_n 2, 1) := by decide +kernel
theorem dX7_save_21 : decode cX7_save 21 = .ok (.bipush 8, 2) := by decide +kernel
theorem dX7_save_23 : decode cX7_save 23 = .ok (.invokestatic 50, 3) := by decide +kernel
theorem dX7_save_26 : decode cX7_save 26 = .ok (.aload_n 0, 1) := by decide +kernel
theorem dX7_save_27 : decode cX7_save 27 = .ok (.getfield 15, 3) := by decide +kernel
theorem dX7_save_30 : decode cX7_save 30 = .ok (.iconst 0, 1) := by decide +kernel
theorem dX7_save_31 : decode cX7_save 31 = .ok (.aload_n 1, 1) := by decide +kernel
theorem dX7_save_32 : decode cX7_save 32 = .ok (.iload_n 2, 1) := by decide +kernel
theorem dX7_save_33 : decode cX7_save 33 = .ok (.bipush 8, 2) := by decide +kernel
theorem dX7_save_35 : decode cX7_save 35 = .ok (.iadd, 1) := by decide +kernel
theorem dX7_save_36 : decode cX7_save 36 = .ok (.bipush 8, 2) := by decide +kernel
theorem dX7_save_38 : decode cX7_save 38 = .ok (.invokestatic 50, 3) := by decide +kernel
theorem dX7_save_4 : decode cX7_save 4 = .ok (.iload_n 2, 1) := by decide +kernel
theorem dX7_save_41 : decode cX7_save 41 = .ok (.aload_n 0, 1) := by decide +kernel
theorem dX7_save_42 : decode cX7_save 42 = .ok (.getfield 18, 3) := by decide +kernel
theorem dX7_save_45 : decode cX7_save 45 = .ok (.iconst 0, 1) := by decide +kernel
theorem dX7_save_46 : decode cX7_save 46 = .ok (.aload_n 1, 1) := by decide +kernel
theorem dX7_save_47 : decode cX7_save 47 = .ok (.iload_n 2, 1) := by decide +kernel
theorem dX7_save_48 : decode cX7_save 48 = .ok (.bipush 16, 2) := by decide +kernel
theorem dX7_save_5 : decode cX7_save 5 = .ok (.aload_n 1, 1) := by decide +kernel
theorem dX7_save_50 : decode cX7_save 50 = .ok (.iadd, 1) := by decide +kernel
theorem dX7_save_51 : decode cX7_save 51 = .ok (.bipush 8, 2) := by decide +kernel
theorem dX7_save_53 : decode cX7_save 53 = .ok (.invokestatic 50, 3) := by decide +kernel
theorem dX7_save_56 : decode cX7_save 56 = .ok (.aload_n 0, 1) := by decide +kernel
theorem dX7_save_57 : decode cX7_save 57 = .ok (.getfield 21, 3) := by decide +kernel
theorem dX7_save_6 : decode cX7_save 6 = .ok (.arraylength, 1) := by decide +kernel
theorem dX7_save_60 : decode cX7_save 60 = .ok (.iconst 0, 1) := by decide +kernel
theorem dX7_save_61 : decode cX7_save 61 = .ok (.aload_n 1, 1) := by decide +kernel
theorem dX7_save_62 : decode cX7_save 62 = .ok (.iload_n 2, 1) := by decide +kernel
theorem dX7_save_63 : decode cX7_save 63 = .ok (.bipush 24, 2) := by decide +kernel
theorem dX7_save_65 : decode cX7_save 65 = .ok (.iadd, 1) := by decide +kernel
theorem dX7_save_66 : decode cX7_save 66 = .ok (.bipush 8, 2) := by decide +kernel
theorem dX7_save_68 : decode cX7_save 68 = .ok (.invokestatic 50, 3) := by decide +kernel
theorem dX7_save_7 : decode cX7_save 7 = .ok (.bipush 34, 2) := by decide +kernel
theorem dX7_save_71 : decode cX7_save 71 = .ok (.aload_n 1, 1) := by decide +kernel
theorem dX7_save_72 : decode cX7_save 72 = .ok (.iload_n 2, 1) := by decide +kernel
theorem dX7_save_73 : decode cX7_save 73 = .ok (.bipush 34, 2) := by decide +kernel
theorem dX7_save_75 : decode cX7_save 75 = .ok (.iadd, 1) := by decide +kernel
theorem dX7_save_76 : decode cX7_save 76 = .ok (.iconst 2, 1) := by decide +kernel
theorem dX7_save_77 : decode cX7_save 77 = .ok (.isub, 1) := by decide +kernel
theorem dX7_save_78 : decode cX7_save 78 = .ok (.aload_n 0, 1) := by decide +kernel
theorem dX7_save_79 : decode cX7_save 79 = .ok (.getfield 44, 3) := by decide +kernel
theorem dX7_save_82 : decode cX7_save 82 = .ok (.iastore, 1) := by decide +kernel
theorem dX7_save_83 : decode cX7_save 83 = .ok (.aload_n 1, 1) := by decide +kernel
theorem dX7_save_84 : decode cX7_save 84 = .ok (.iload_n 2, 1) := by decide +kernel
theorem dX7_save_85 : decode cX7_save 85 = .ok (.bipush 34, 2) := by decide +kernel
theorem dX7_save_87 : decode cX7_save 87 = .ok (.iadd, 1) := by decide +kernel
theorem dX7_save_88 : decode cX7_save 88 = .ok (.iconst 1, 1) := by decide +kernel
theorem dX7_save_89 : decode cX7_save 89 = .ok (.isub, 1) := by decide +kernel
theorem dX7_save_9 : decode cX7_save 9 = .ok (.isub, 1) := by decide +kernel
theorem dX7_save_90 : decode cX7_save 90 = .ok (.aload_n 0, 1) := by decide +kernel
theorem dX7_save_91 : decode cX7_save 91 = .ok (.getfield 47, 3) := by decide +kernel
theorem dX7_save_94 : decode cX7_save 94 = .ok (.iastore, 1) := by decide +kernel
theorem dX7_save_95 : decode cX7_save 95 = .ok (.return_, 1) := by decide +kernel
theorem dX7_shift_0 : decode cX7_shift 0 = .ok (.aload_n 0, 1) := by decide +kernel
theorem dX7_shift_1 : decode cX7_shift 1 = .ok (.iload_n 1, 1) := by decide +kernel
theorem dX7_shift_12 : decode cX7_shift 12 = .ok (.aload_n 0, 1) := by decide +kernel
theorem dX7_shift_13 : decode cX7_shift 13 = .ok (.getfield 9, 3) := by decide +kernel
theorem dX7_shift_16 : decode cX7_shift 16 = .ok (.iload_n 1, 1) := by decide +kernel
theorem dX7_shift_17 : decode cX7_shift 17 = .ok (.iload_n 2, 1) := by decide +kernel
theorem dX7_shift_18 : decode cX7_shift 18 = .ok (.iastore, 1) := by decide +kernel
theorem dX7_shift_19 : decode cX7_shift 19 = .ok (.iload_n 3, 1) := by decide +kernel
theorem dX7_shift_2 : decode cX7_shift 2 = .ok (.iload_n 2, 1) := by decide +kernel
theorem dX7_shift_20 : decode cX7_shift 20 = .ok (.ireturn, 1) := by decide +kernel
theorem dX7_shift_3 : decode cX7_shift 3 = .ok (.invokevirtual 128, 3) := by decide +kernel
theorem dX7_shift_6 : decode cX7_shift 6 = .ok (.istore_n 3, 1) := by decide +kernel
theorem dX7_shift_7 : decode cX7_shift 7 = .ok (.aload_n 0, 1) := by decide +kernel
theorem dX7_shift_8 : decode cX7_shift 8 = .ok (.iload_n 3, 1) := by decide +kernel
theorem dX7_shift_9 : decode cX7_shift 9 = .ok (.invokevirtual 131, 3) := by decide +kernel
theorem dX9_minutesBetween_0 : decode cX9_minutesBetween 0 = .ok (.aload_n 0, 1) := by decide +kernel
theorem dX9_minutesBetween_1 : decode cX9_minutesBetween 1 = .ok (.iload_n 2, 1) := by decide +kernel
theorem dX9_minutesBetween_10 : decode cX9_minutesBetween 10 = .ok (.iload_n 1, 1) := by decide +kernel
theorem dX9_minutesBetween_11 : decode cX9_minutesBetween 11 = .ok (.iaload, 1) := by decide +kernel
theorem dX9_minutesBetween_12 : decode cX9_minutesBetween 12 = .ok (.imul, 1) := by decide +kernel
theorem dX9_minutesBetween_13 : decode cX9_minutesBetween 13 = .ok (.ireturn, 1) := by decide +kernel
theorem dX9_minutesBetween_2 : decode cX9_minutesBetween 2 = .ok (.iload_n 3, 1) := by decide +kernel
theorem dX9_minutesBetween_3 : decode cX9_minutesBetween 3 = .ok (.invokevirtual 109, 3) := by decide +kernel
theorem dX9_minutesBetween_6 : decode cX9_minutesBetween 6 = .ok (.aload_n 0, 1) := by decide +kernel
theorem dX9_minutesBetween_7 : decode cX9_minutesBetween 7 = .ok (.getfield 30, 3) := by decide +kernel
set_option maxRecDepth 4000 in
theorem k_X11_firstClash (l : Launch) (M : Mem) (hJ : Iw M) : CI l yX11_firstClash cX11_firstClash 1 (some .int) 4 (fun ad => [.ref (ad 0)]) M (fun z M' => ((-1) ≤ z ∧ z ≤ 77) ∧ M = M') := by
  obtain ⟨hI, hW⟩ := hJ
  refine en_i (by decide +kernel) (fun ad => by exact Nat.le_of_ble_eq_true rfl) (fun D cy ad A p e s m args below meth c Q F hret => ?_)
  refine z_eq (ls' := [(0, .ref (ad 0))]) rfl rfl rfl ?_
  refine z_aload_n F dX11_firstClash_0 rfl (q := 0) rfl ?_
  refine rf_X11_34 F gs_0 rfl dX11_firstClash_1 ?_
  refine zv_i (rest := []) F (k_X7_firstTwo_35 l M ⟨hI, hW⟩) cs_X11_197 (T := TX7) (N := 7) (ci := 7) rfl gs_35 (by decide) (by decide) rfl rfl rfl (Nat.le_of_ble_eq_true rfl) dX11_firstClash_4 (fun v1 M2 rv1 hI p3 => ?_)
  obtain ⟨hI, hW⟩ := hI
  obtain ⟨⟨av1, bv1⟩, rfl, xp3⟩ := p3
  exact hret _ _ 7 _ (by omega) ⟨hI, hW⟩ ⟨⟨by omega, by omega⟩, rfl⟩ dX11_firstClash_7
set_option maxRecDepth 4000 in
theorem k_X7_save_35_41 (l : Launch) (M : Mem) (hJ : Iw M) (x1 : Int) (hx1a : (-2147483648) ≤ x1) (hx1b : x1 ≤ 2147483647) (hp0 : x1 % 34 = 0) : CV l yX7_save cX7_save 3 none 1 (fun ad => [.ref (ad 35), .ref (ad 41), ii x1]) M (fun M' => Fr [41] M M') := by
  obtain ⟨hI, hW⟩ := hJ
  have hF : Fr [41] M M := Fr.rf
  refine en_v (by decide +kernel) (fun ad => by exact Nat.le_of_ble_eq_true rfl) (fun D cy ad A p e s m args below meth c Q F hret => ?_)
  refine z_eq (ls' := [(0, .ref (ad 35)), (1, .ref (ad 41)), (2, ii x1)]) rfl rfl rfl ?_
  refine z_iload_n F dX7_save_0 rfl (q := 2) rfl ?_
  refine z_if_lt (tgt := 13) F dX7_save_1 (by decide +kernel) (by omega) (fun c1 => ?_) (fun c1 => ?_)
  · exact hret _ 13 _ ⟨hI, hW⟩ hF dX7_save_13
  · refine z_iload_n F dX7_save_4 rfl (q := 2) rfl ?_
    refine z_aload_n F dX7_save_5 rfl (q := 1) rfl ?_
    refine z_alen (x := 408) F gs_41 rfl rfl dX7_save_6 ?_
    refine z_bipush F dX7_save_7 (by decide +kernel) ?_
    refine z_isub F dX7_save_9 ?_
    refine z_icmp_le (tgt := 14) F dX7_save_10 (by decide +kernel) (by omega) (by omega) (fun c2 => ?_) (fun c2 => ?_)
    · refine z_aload_n F dX7_save_14 rfl (q := 0) rfl ?_
      refine rf_X7_9 F gs_35 rfl dX7_save_15 ?_
      refine z_iconst F dX7_save_18 ?_
      refine z_aload_n F dX7_save_19 rfl (q := 1) rfl ?_
      refine z_iload_n F dX7_save_20 rfl (q := 2) rfl ?_
      refine z_bipush F dX7_save_21 (by decide +kernel) ?_
      refine z_copy F (by decide) ac_X7_50 hI gs_36 gs_41 (by omega) (by omega) (by omega) (by omega) (by omega) (by decide) (by decide) (fun i hi => (show Bd 41 _ = (0, 9) from (bd_41.trans (sc_p (by omega)))).trans (show Bd 36 _ = (0, 9) from rfl).symm) (Nat.le_of_ble_eq_true rfl) dX7_save_23 (fun M4 hI g3 => ?_)
      have hF := hF.call g3 (by decide)
      have hW : WFk M4 := hW.fr g3 (by decide) (by decide)
      refine z_aload_n F dX7_save_26 rfl (q := 0) rfl ?_
      refine rf_X7_15 F gs_35 rfl dX7_save_27 ?_
      refine z_iconst F dX7_save_30 ?_
      refine z_aload_n F dX7_save_31 rfl (q := 1) rfl ?_
      refine z_iload_n F dX7_save_32 rfl (q := 2) rfl ?_
      refine z_bipush F dX7_save_33 (by decide +kernel) ?_
      refine z_iadd F dX7_save_35 ?_
      refine z_bipush F dX7_save_36 (by decide +kernel) ?_
      refine z_copy F (by decide) ac_X7_50 hI gs_37 gs_41 (by omega) (by omega) (by omega) (by omega) (by omega) (by decide) (by decide) (fun i hi => (show Bd 41 _ = (-2147483648, 2147483647) from (bd_41.trans (sc_n (by omega)))).trans (show Bd 37 _ = (-2147483648, 2147483647) from rfl).symm) (Nat.le_of_ble_eq_true rfl) dX7_save_38 (fun M6 hI g5 => ?_)
      have hF := hF.call g5 (by decide)
      have hW : WFk M6 := hW.fr g5 (by decide) (by decide)
      refine z_aload_n F dX7_save_41 rfl (q := 0) rfl ?_
      refine rf_X7_18 F gs_35 rfl dX7_save_42 ?_
      refine z_iconst F dX7_save_45 ?_
      refine z_aload_n F dX7_save_46 rfl (q := 1) rfl ?_
      refine z_iload_n F dX7_save_47 rfl (q := 2) rfl ?_
      refine z_bipush F dX7_save_48 (by decide +kernel) ?_
      refine z_iadd F dX7_save_50 ?_
      refine z_bipush F dX7_save_51 (by decide +kernel) ?_
      refine z_copy F (by decide) ac_X7_50 hI gs_38 gs_41 (by omega) (by omega) (by omega) (by omega) (by omega) (by decide) (by decide) (fun i hi => (show Bd 41 _ = (-2147483648, 2147483647) from (bd_41.trans (sc_n (by omega)))).trans (show Bd 38 _ = (-2147483648, 2147483647) from rfl).symm) (Nat.le_of_ble_eq_true rfl) dX7_save_53 (fun M8 hI g7 => ?_)
      have hF := hF.call g7 (by decide)
      have hW : WFk M8 := hW.fr g7 (by decide) (by decide)
      refine z_aload_n F dX7_save_56 rfl (q := 0) rfl ?_
      refine rf_X7_21 F gs_35 rfl dX7_save_57 ?_
      refine z_iconst F dX7_save_60 ?_
      refine z_aload_n F dX7_save_61 rfl (q := 1) rfl ?_
      refine z_iload_n F dX7_save_62 rfl (q := 2) rfl ?_
      refine z_bipush F dX7_save_63 (by decide +kernel) ?_
      refine z_iadd F dX7_save_65 ?_
      refine z_bipush F dX7_save_66 (by decide +kernel) ?_
      refine z_copy F (by decide) ac_X7_50 hI gs_39 gs_41 (by omega) (by omega) (by omega) (by omega) (by omega) (by decide) (by decide) (fun i hi => (show Bd 41 _ = (-2147483648, 2147483647) from (bd_41.trans (sc_n (by omega)))).trans (show Bd 39 _ = (-2147483648, 2147483647) from rfl).symm) (Nat.le_of_ble_eq_true rfl) dX7_save_68 (fun M10 hI g9 => ?_)
      have hF := hF.call g9 (by decide)
      have hW : WFk M10 := hW.fr g9 (by decide) (by decide)
      refine z_aload_n F dX7_save_71 rfl (q := 1) rfl ?_
      refine z_iload_n F dX7_save_72 rfl (q := 2) rfl ?_
      refine z_bipush F dX7_save_73 (by decide +kernel) ?_
      refine z_iadd F dX7_save_75 ?_
      refine z_iconst F dX7_save_76 ?_
      refine z_isub F dX7_save_77 ?_
      refine z_aload_n F dX7_save_78 rfl (q := 0) rfl ?_
      refine gf_X7_44 F hI gs_35 rfl bd_35_5 dX7_save_79 (fun v11 ev11 av11 bv11 => ?_)
      refine z_iast F hI gs_41 (by omega) (by omega) (by decide) (bd_41.trans (sc_n (by omega))) dX7_save_82 (by omega) (by omega) (fun M13 hI sf12 f12 => ?_)
      have hF := hF.wr f12 (by decide) (by decide)
      have hW : WFk M13 := hW.site f12 (by decide)
      refine z_aload_n F dX7_save_83 rfl (q := 1) rfl ?_
      refine z_iload_n F dX7_save_84 rfl (q := 2) rfl ?_
      refine z_bipush F dX7_save_85 (by decide +kernel) ?_
      refine z_iadd F dX7_save_87 ?_
      refine z_iconst F dX7_save_88 ?_
      refine z_isub F dX7_save_89 ?_
      refine z_aload_n F dX7_save_90 rfl (q := 0) rfl ?_
      refine gf_X7_47 F hI gs_35 rfl bd_35_6 dX7_save_91 (fun v14 ev14 av14 bv14 => ?_)
      refine z_iast F hI gs_41 (by omega) (by omega) (by decide) (bd_41.trans (sc_n (by omega))) dX7_save_94 (by omega) (by omega) (fun M16 hI sf15 f15 => ?_)
      have hF := hF.wr f15 (by decide) (by decide)
      have hW : WFk M16 := hW.site f15 (by decide)
      exact hret _ 95 _ ⟨hI, hW⟩ hF dX7_save_95
    · exact hret _ 13 _ ⟨hI, hW⟩ hF dX7_save_13
set_option maxRecDepth 4000 in
theorem k_X4_keep_40_35 (l : Launch) (M : Mem) (hJ : Iw M) : CV l yX4_keep cX4_keep 2 none 2 (fun ad => [.ref (ad 40), .ref (ad 35)]) M (fun M' => Fr [40, 41] M M') := by
  obtain ⟨hI, hW⟩ := hJ
  have hF : Fr [40, 41] M M := Fr.rf
  refine en_v (by decide +kernel) (fun ad => by exact Nat.le_of_ble_eq_true rfl) (fun D cy ad A p e s m args below meth c Q F hret => ?_)
  refine z_eq (ls' := [(0, .ref (ad 40)), (1, .ref (ad 35))]) rfl rfl rfl ?_
  refine z_aload_n F dX4_keep_0 rfl (q := 0) rfl ?_
  refine z_aload_n F dX4_keep_1 rfl (q := 0) rfl ?_
  refine gf_X4_21 F hI gs_40 rfl bd_40_1 dX4_keep_2 (fun v1 ev1 av1 bv1 => ?_)
  refine z_iconst F dX4_keep_5 ?_
  refine z_iadd F dX4_keep_6 ?_
  refine z_bipush F dX4_keep_7 (by decide +kernel) ?_
  refine z_irem_p F dX4_keep_9 (by omega) (by omega) (by omega) (by omega) (fun v2 ev2 => ?_)
  refine pf_X4_21 F hI gs_40 rfl bd_40_1 rfl rfl dX4_keep_10 (by omega) (by omega) (fun M4 hI sf3 f3 => ?_)
  have hF := hF.wr f3 (by decide) (by decide)
  have hW : WFk M4 := hW.site f3 (by decide)
  refine z_aload_n F dX4_keep_13 rfl (q := 1) rfl ?_
  refine z_aload_n F dX4_keep_14 rfl (q := 0) rfl ?_
  refine rf_X4_11 F gs_40 rfl dX4_keep_15 ?_
  refine z_aload_n F dX4_keep_18 rfl (q := 0) rfl ?_
  refine gf_X4_21 F hI gs_40 rfl bd_40_1 dX4_keep_19 (fun v5 ev5 av5 bv5 => ?_)
  have zv5 : v2 = v5 := sf3.symm.trans ev5.symm
  subst zv5
  refine z_bipush F dX4_keep_22 (by decide +kernel) ?_
  refine z_imul F dX4_keep_24 ?_
  refine zv_v (rest := []) F (k_X7_save_35_41 l M4 ⟨hI, hW⟩ (v2 * 34) (by omega) (by omega) (by omega)) cs_X4_24 (T := TX7) (N := 7) (ci := 7) rfl gs_35 (by decide) (by decide) rfl rfl rfl (Nat.le_of_ble_eq_true rfl) dX4_keep_25 (fun M6 hI p7 => ?_)
  obtain ⟨hI, hW⟩ := hI
  have fp7 := p7
  have hF := hF.call fp7 (by decide)
  refine z_aload_n F dX4_keep_28 rfl (q := 0) rfl ?_
  refine z_aload_n F dX4_keep_29 rfl (q := 0) rfl ?_
  refine gf_X4_17 F hI gs_40 rfl bd_40_0 dX4_keep_30 (fun v8 ev8 av8 bv8 => ?_)
  refine z_iconst F dX4_keep_33 ?_
  refine z_iadd F dX4_keep_34 ?_
  refine z_bipush F dX4_keep_35 (by decide +kernel) ?_
  refine z_min F mm_X4_28 (Nat.le_of_ble_eq_true rfl) dX4_keep_37 (by omega) (by omega) (fun v9 ev9 => ?_)
  refine pf_X4_17 F hI gs_40 rfl bd_40_0 rfl rfl dX4_keep_40 (by omega) (by omega) (fun M11 hI sf10 f10 => ?_)
  have hF := hF.wr f10 (by decide) (by decide)
  have hW : WFk M11 := hW.site f10 (by decide)
  exact hret _ 43 _ ⟨hI, hW⟩ hF dX4_keep_43
set_option maxRecDepth 4000 in
theorem k_X11_keptWithin (l : Launch) (M : Mem) (hJ : Iw M) (x0 : Int) (hx0a : (-2147483648) ≤ x0) (hx0b : x0 ≤ 2147483647) (x1 : Int) (hx1a : (-2147483648) ≤ x1) (hx1b : x1 ≤ 2147483647) (x2 : Int) (hx2a : (-2147483648) ≤ x2) (hx2b : x2 ≤ 2147483647) : CI l yX11_keptWithin cX11_keptWithin 3 (some .int) 1 (fun ad => [ii x0, ii x1, ii x2]) M (fun z M' => ((-2147483648) ≤ z ∧ z ≤ 2147483647) ∧ M = M' ∧ ((x1 ≤ x2 → x1 ≤ z ∧ z ≤ x2) ∧ (x1 ≤ x0 → x0 ≤ x2 → z = x0))) := by
  obtain ⟨hI, hW⟩ := hJ
  refine en_i (by decide +kernel) (fun ad => by exact Nat.le_of_ble_eq_true rfl) (fun D cy ad A p e s m args below meth c Q F hret => ?_)
  refine z_eq (ls' := [(0, ii x0), (1, ii x1), (2, ii x2)]) rfl rfl rfl ?_
  refine z_iload_n F dX11_keptWithin_0 rfl (q := 1) rfl ?_
  refine z_iload_n F dX11_keptWithin_1 rfl (q := 2) rfl ?_
  refine z_iload_n F dX11_keptWithin_2 rfl (q := 0) rfl ?_
  refine z_min F mm_X11_465 (Nat.le_of_ble_eq_true rfl) dX11_keptWithin_3 (by omega) (by omega) (fun v1 ev1 => ?_)
  refine z_max F mm_X11_498 (Nat.le_of_ble_eq_true rfl) dX11_keptWithin_6 (by omega) (by omega) (fun v2 ev2 => ?_)
  exact hret _ _ 9 _ (by omega) ⟨hI, hW⟩ ⟨⟨by omega, by omega⟩, rfl, (by omega)⟩ dX11_keptWithin_9
set_option maxRecDepth 4000 in
theorem k_X2_isTold_14 (l : Launch) (M : Mem) (hJ : Iw M) : CI l yX2_isTold cX2_isTold 1 (some .boolean) 1 (fun ad => [.ref (ad 14)]) M (fun z M' => (0 ≤ z ∧ z ≤ 1) ∧ M = M') := by
  obtain ⟨hI, hW⟩ := hJ
  refine en_z (by decide +kernel) (fun ad => by exact Nat.le_of_ble_eq_true rfl) (fun D cy ad A p e s m args below meth c Q F hret => ?_)
  refine z_eq (ls' := [(0, .ref (ad 14))]) rfl rfl rfl ?_
  refine z_aload_n F dX2_isTold_0 rfl (q := 0) rfl ?_
  refine gf_X2_25 F hI gs_14 rfl bd_14_1 dX2_isTold_1 (fun v1 ev1 av1 bv1 => ?_)
  refine z_if_le (tgt := 11) F dX2_isTold_4 (by decide +kernel) (by omega) (fun c2 => ?_) (fun c2 => ?_)
  · refine z_iconst F dX2_isTold_11 ?_
    exact hret _ _ 12 _ ⟨by omega, by omega⟩ ⟨hI, hW⟩ ⟨⟨by omega, by omega⟩, rfl⟩ dX2_isTold_12
  · refine z_iconst F dX2_isTold_7 ?_
    refine z_goto (tgt := 12) F dX2_isTold_8 (by decide +kernel) ?_
    exact hret _ _ 12 _ ⟨by omega, by omega⟩ ⟨hI, hW⟩ ⟨⟨by omega, by omega⟩, rfl⟩ dX2_isTold_12
set_option maxRecDepth 4000 in
theorem k_X2_name_14 (l : Launch) (M : Mem) (hJ : Iw M) (x0 : Int) (hx0a : (-8) ≤ x0) (hx0b : x0 ≤ (-1)) (x1 : Int) (hx1a : (-2147483648) ≤ x1) (hx1b : x1 ≤ 2147483647) : CV l yX2_name cX2_name 3 none 1 (fun ad => [.ref (ad 14), ii x0, ii x1]) M (fun M' => Fr [17] M M') := by
  obtain ⟨hI, hW⟩ := hJ
  have hF : Fr [17] M M := Fr.rf
  refine en_v (by decide +kernel) (fun ad => by exact Nat.le_of_ble_eq_true rfl) (fun D cy ad A p e s m args below meth c Q F hret => ?_)
  refine z_eq (ls' := [(0, .ref (ad 14)), (1, ii x0), (2, ii x1)]) rfl rfl rfl ?_
  refine z_aload_n F dX2_name_0 rfl (q := 0) rfl ?_
  refine rf_X2_22 F gs_14 rfl dX2_name_1 ?_
  refine z_iconst F dX2_name_4 ?_
  refine z_iload_n F dX2_name_5 rfl (q := 1) rfl ?_
  refine z_isub F dX2_name_6 ?_
  refine z_iload_n F dX2_name_7 rfl (q := 2) rfl ?_
  refine z_iast F hI gs_17 (by omega) (by omega) (by decide) bd_17 dX2_name_8 (by omega) (by omega) (fun M2 hI sf1 f1 => ?_)
  have hF := hF.wr f1 (by decide) (by decide)
  have hW : WFk M2 := hW.site f1 (by decide)
  exact hret _ 9 _ ⟨hI, hW⟩ hF dX2_name_9
set_option maxRecDepth 4000 in
theorem k_X2_work (l : Launch) (M : Mem) (hJ : Iw M) (x0 : Int) (hx0a : (-2147483648) ≤ x0) (hx0b : x0 ≤ 2147483647) (x1 : Int) (hx1a : (-2147483648) ≤ x1) (hx1b : x1 ≤ 2147483647) (x2 : Int) (hx2a : (-2147483648) ≤ x2) (hx2b : x2 ≤ 2147483647) : CI l yX2_work cX2_work 5 (some .int) 2 (fun ad => [ii x0, ii x1, ii x2]) M (fun z M' => ((-2147483648) ≤ z ∧ z ≤ 2147483647) ∧ M = M') := by
  obtain ⟨hI, hW⟩ := hJ
  refine en_i (by decide +kernel) (fun ad => by exact Nat.le_of_ble_eq_true rfl) (fun D cy ad A p e s m args below meth c Q F hret => ?_)
  refine z_eq (ls' := [(0, ii x0), (1, ii x1), (2, ii x2)]) rfl rfl rfl ?_
  refine z_iload_n F dX2_work_0 rfl (q := 0) rfl ?_
  rcases (show x0 = (-16) ∨ x0 = (-15) ∨ x0 = (-14) ∨ x0 = (-13) ∨ x0 = (-12) ∨ x0 = (-11) ∨ x0 = (-10) ∨ (¬ x0 = (-16) ∧ ¬ x0 = (-15) ∧ ¬ x0 = (-14) ∧ ¬ x0 = (-13) ∧ ¬ x0 = (-12) ∧ ¬ x0 = (-11) ∧ ¬ x0 = (-10)) by omega) with c1 | c1 | c1 | c1 | c1 | c1 | c1 | c1
  · refine z_tabIn (tgt := 120) (off := 119) F dX2_work_1 (by omega) (by omega) (by omega) (by rw [c1]; rfl) (by decide +kernel) ?_
    refine z_iload_n F dX2_work_120 rfl (q := 1) rfl ?_
    refine z_iload_n F dX2_work_121 rfl (q := 2) rfl ?_
    refine z_iand0 F dX2_work_122 (fun v2 ev2 rv2 => ?_)
    exact hret _ _ 123 _ (by omega) ⟨hI, hW⟩ ⟨⟨by omega, by omega⟩, rfl⟩ dX2_work_123
  · refine z_tabIn (tgt := 109) (off := 108) F dX2_work_1 (by omega) (by omega) (by omega) (by rw [c1]; rfl) (by decide +kernel) ?_
    refine z_iload_n F dX2_work_109 rfl (q := 1) rfl ?_
    refine z_iload_n F dX2_work_110 rfl (q := 2) rfl ?_
    refine z_icmp_le (tgt := 118) F dX2_work_111 (by decide +kernel) (by omega) (by omega) (fun c3 => ?_) (fun c3 => ?_)
    · refine z_iconst F dX2_work_118 ?_
      exact hret _ _ 119 _ (by omega) ⟨hI, hW⟩ ⟨⟨by omega, by omega⟩, rfl⟩ dX2_work_119
    · refine z_iconst F dX2_work_114 ?_
      refine z_goto (tgt := 119) F dX2_work_115 (by decide +kernel) ?_
      exact hret _ _ 119 _ (by omega) ⟨hI, hW⟩ ⟨⟨by omega, by omega⟩, rfl⟩ dX2_work_119
  · refine z_tabIn (tgt := 98) (off := 97) F dX2_work_1 (by omega) (by omega) (by omega) (by rw [c1]; rfl) (by decide +kernel) ?_
    refine z_iload_n F dX2_work_98 rfl (q := 1) rfl ?_
    refine z_iload_n F dX2_work_99 rfl (q := 2) rfl ?_
    refine z_icmp_ge (tgt := 107) F dX2_work_100 (by decide +kernel) (by omega) (by omega) (fun c4 => ?_) (fun c4 => ?_)
    · refine z_iconst F dX2_work_107 ?_
      exact hret _ _ 108 _ (by omega) ⟨hI, hW⟩ ⟨⟨by omega, by omega⟩, rfl⟩ dX2_work_108
    · refine z_iconst F dX2_work_103 ?_
      refine z_goto (tgt := 108) F dX2_work_104 (by decide +kernel) ?_
      exact hret _ _ 108 _ (by omega) ⟨hI, hW⟩ ⟨⟨by omega, by omega⟩, rfl⟩ dX2_work_108
  · refine z_tabIn (tgt := 87) (off := 86) F dX2_work_1 (by omega) (by omega) (by omega) (by rw [c1]; rfl) (by decide +kernel) ?_
    refine z_iload_n F dX2_work_87 rfl (q := 1) rfl ?_
    refine z_iload_n F dX2_work_88 rfl (q := 2) rfl ?_
    refine z_icmp_ne (tgt := 96) F dX2_work_89 (by decide +kernel) (by omega) (by omega) (fun c5 => ?_) (fun c5 => ?_)
    · refine z_iconst F dX2_work_96 ?_
      exact hret _ _ 97 _ (by omega) ⟨hI, hW⟩ ⟨⟨by omega, by omega⟩, rfl⟩ dX2_work_97
    · refine z_iconst F dX2_work_92 ?_
      refine z_goto (tgt := 97) F dX2_work_93 (by decide +kernel) ?_
      exact hret _ _ 97 _ (by omega) ⟨hI, hW⟩ ⟨⟨by omega, by omega⟩, rfl⟩ dX2_work_97
  · refine z_tabIn (tgt := 66) (off := 65) F dX2_work_1 (by omega) (by omega) (by omega) (by rw [c1]; rfl) (by decide +kernel) ?_
    refine z_iload_n F dX2_work_66 rfl (q := 1) rfl ?_
    refine z_i2l F dX2_work_67 (by omega) ?_
    refine z_iload_n F dX2_work_68 rfl (q := 2) rfl ?_
    refine z_i2l F dX2_work_69 (by omega) ?_
    refine z_lmul_r F dX2_work_70 (by omega) (by omega) (fun v6 ev6 av6 bv6 => ?_)
    refine z_lstore_n F dX2_work_71 rfl (by decide) (ls' := [(3, ll v6), (0, ii x0), (1, ii x1), (2, ii x2)]) rfl ?_
    refine z_ldc2 (x := (-1000000)) F dX2_work_72 (gin lm_425 rfl) (by decide +kernel) ?_
    refine z_ldc2 (x := 1000000) F dX2_work_75 (gin lm_426 rfl) (by decide +kernel) ?_
    refine z_lload_n F dX2_work_78 rfl (q := 0) rfl ?_
    refine z_minl F mm_X2_62 (Nat.le_of_ble_eq_true rfl) dX2_work_79 (by omega) (by omega) (fun v7 ev7 => ?_)
    refine z_maxl F mm_X2_68 (Nat.le_of_ble_eq_true rfl) dX2_work_82 (by omega) (by omega) (fun v8 ev8 => ?_)
    refine z_l2i F dX2_work_85 (by omega) ?_
    exact hret _ _ 86 _ (by omega) ⟨hI, hW⟩ ⟨⟨by omega, by omega⟩, rfl⟩ dX2_work_86
  · refine z_tabIn (tgt := 55) (off := 54) F dX2_work_1 (by omega) (by omega) (by omega) (by rw [c1]; rfl) (by decide +kernel) ?_
    refine z_iload_n F dX2_work_55 rfl (q := 1) rfl ?_
    refine z_iload_n F dX2_work_56 rfl (q := 2) rfl ?_
    refine z_isub F dX2_work_57 ?_
    refine z_wrap (fun v9 rv9 wv9 => ?_)
    refine z_ldc (x := (-1000000)) F dX2_work_58 (gin lm_429 rfl) (by decide +kernel) ?_
    refine z_ldc (x := 1000000) F dX2_work_60 (gin lm_430 rfl) (by decide +kernel) ?_
    refine zn_i (rest := []) F (k_X11_keptWithin l M ⟨hI, hW⟩ v9 (by omega) (by omega) (-1000000) (by omega) (by omega) 1000000 (by omega) (by omega)) cs_X2_55 (by decide) (by decide) rfl rfl rfl (Nat.le_of_ble_eq_true rfl) dX2_work_62 (fun v10 M11 rv10 hI p12 => ?_)
    obtain ⟨hI, hW⟩ := hI
    obtain ⟨⟨av10, bv10⟩, rfl, xp12⟩ := p12
    have hkv10 : (-1000000) ≤ v10 ∧ v10 ≤ 1000000 := by omega
    exact hret _ _ 65 _ (by omega) ⟨hI, hW⟩ ⟨⟨by omega, by omega⟩, rfl⟩ dX2_work_65
  · refine z_tabIn (tgt := 44) (off := 43) F dX2_work_1 (by omega) (by omega) (by omega) (by rw [c1]; rfl) (by decide +kernel) ?_
    refine z_iload_n F dX2_work_44 rfl (q := 1) rfl ?_
    refine z_iload_n F dX2_work_45 rfl (q := 2) rfl ?_
    refine z_iadd F dX2_work_46 ?_
    refine z_wrap (fun v13 rv13 wv13 => ?_)
    refine z_ldc (x := (-1000000)) F dX2_work_47 (gin lm_429 rfl) (by decide +kernel) ?_
    refine z_ldc (x := 1000000) F dX2_work_49 (gin lm_430 rfl) (by decide +kernel) ?_
    refine zn_i (rest := []) F (k_X11_keptWithin l M ⟨hI, hW⟩ v13 (by omega) (by omega) (-1000000) (by omega) (by omega) 1000000 (by omega) (by omega)) cs_X2_55 (by decide) (by decide) rfl rfl rfl (Nat.le_of_ble_eq_true rfl) dX2_work_51 (fun v14 M15 rv14 hI p16 => ?_)
    obtain ⟨hI, hW⟩ := hI
    obtain ⟨⟨av14, bv14⟩, rfl, xp16⟩ := p16
    have hkv14 : (-1000000) ≤ v14 ∧ v14 ≤ 1000000 := by omega
    exact hret _ _ 54 _ (by omega) ⟨hI, hW⟩ ⟨⟨by omega, by omega⟩, rfl⟩ dX2_work_54
  · refine z_tabOut (tgt := 124) F dX2_work_1 (by omega) (by omega) (by decide +kernel) ?_
    refine z_iload_n F dX2_work_124 rfl (q := 1) rfl ?_
    refine z_iload_n F dX2_work_125 rfl (q := 2) rfl ?_
    refine z_ior0 F dX2_work_126 (fun v17 ev17 rv17 => ?_)
    exact hret _ _ 127 _ (by omega) ⟨hI, hW⟩ ⟨⟨by omega, by omega⟩, rfl⟩ dX2_work_127
set_option maxRecDepth 4000 in
theorem k_X2_forbids_14 (l : Launch) (M : Mem) (hJ : Iw M) (x0 : Int) (hx0a : (-2147483648) ≤ x0) (hx0b : x0 ≤ 2147483647) (x1 : Int) (hx1a : (-2147483648) ≤ x1) (hx1b : x1 ≤ 2147483647) (x2 : Int) (hx2a : 0 ≤ x2) (hx2b : x2 ≤ 1) (x3 : Int) (hx3a : 0 ≤ x3) (hx3b : x3 ≤ 1) : CI l yX2_forbids cX2_forbids 8 (some .boolean) 3 (fun ad => [.ref (ad 14), ii x0, ii x1, ii x2, ii x3]) M (fun z M' => (0 ≤ z ∧ z ≤ 1) ∧ Fr [16, 17] M M') := by
  obtain ⟨hI, hW⟩ := hJ
  have hF : Fr [16, 17] M M := Fr.rf
  refine en_z (by decide +kernel) (fun ad => by exact Nat.le_of_ble_eq_true rfl) (fun D cy ad A p e s m args below meth c Q F hret => ?_)
  refine z_eq (ls' := [(0, .ref (ad 14)), (1, ii x0), (2, ii x1), (3, ii x2), (4, ii x3)]) rfl rfl rfl ?_
  refine z_aload_n F dX2_forbids_0 rfl (q := 0) rfl ?_
  refine zv_i (rest := []) F (k_X2_isTold_14 l M ⟨hI, hW⟩) cs_X2_34 (T := TX2) (N := 5) (ci := 2) rfl gs_14 (by decide) (by decide) rfl rfl rfl (Nat.le_of_ble_eq_true rfl) dX2_forbids_1 (fun v1 M2 rv1 hI p3 => ?_)
  obtain ⟨hI, hW⟩ := hI
  obtain ⟨⟨av1, bv1⟩, rfl⟩ := p3
  refine z_if_ne (tgt := 29) F dX2_forbids_4 (by decide +kernel) (by omega) (fun c4 => ?_) (fun c4 => ?_)
  · refine z_aload_n F dX2_forbids_29 rfl (q := 0) rfl ?_
    refine z_iconst F dX2_forbids_30 ?_
    refine z_iload_n F dX2_forbids_31 rfl (q := 1) rfl ?_
    refine zv_v (rest := []) F (k_X2_name_14 l M ⟨hI, hW⟩ (-1) (by omega) (by omega) x0 (by omega) (by omega)) cs_X2_42 (T := TX2) (N := 5) (ci := 2) rfl gs_14 (by decide) (by decide) rfl rfl rfl (Nat.le_of_ble_eq_true rfl) dX2_forbids_32 (fun M5 hI p6 => ?_)
    obtain ⟨hI, hW⟩ := hI
    have fp6 := p6
    have hF := hF.call fp6 (by decide)
    refine z_aload_n F dX2_forbids_35 rfl (q := 0) rfl ?_
    refine z_bipush F dX2_forbids_36 (by decide +kernel) ?_
    refine z_iload_n F dX2_forbids_38 rfl (q := 2) rfl ?_
    refine zv_v (rest := []) F (k_X2_name_14 l M5 ⟨hI, hW⟩ (-2) (by omega) (by omega) x1 (by omega) (by omega)) cs_X2_42 (T := TX2) (N := 5) (ci := 2) rfl gs_14 (by decide) (by decide) rfl rfl rfl (Nat.le_of_ble_eq_true rfl) dX2_forbids_39 (fun M7 hI p8 => ?_)
    obtain ⟨hI, hW⟩ := hI
    have fp8 := p8
    have hF := hF.call fp8 (by decide)
    refine z_aload_n F dX2_forbids_42 rfl (q := 0) rfl ?_
    refine z_bipush F dX2_forbids_43 (by decide +kernel) ?_
    refine z_aload_n F dX2_forbids_45 rfl (q := 0) rfl ?_
    refine z_iload_n F dX2_forbids_46 rfl (q := 1) rfl ?_
    refine zv_i (rest := [ii (-3), .ref (ad 14)]) F (k_X2_isOdd_14 l M7 ⟨hI, hW⟩ x0 (by omega) (by omega)) cs_X2_38 (T := TX2) (N := 5) (ci := 2) rfl gs_14 (by decide) (by decide) rfl rfl rfl (Nat.le_of_ble_eq_true rfl) dX2_forbids_47 (fun v9 M10 rv9 hI p11 => ?_)
    obtain ⟨hI, hW⟩ := hI
    obtain ⟨⟨av9, bv9⟩, rfl⟩ := p11
    have cutg13 : ∀ g13 : Int, 0 ≤ g13 → g13 ≤ 1 → Z D cy ad p l e (RMh 3) s m args below meth c A 8 0 0 Q 58 [(0, .ref (ad 14)), (1, ii x0), (2, ii x1), (3, ii x2), (4, ii x3)] [ii g13, ii (-3), .ref (ad 14)] M7 := by
      intro g13 ag13 bg13
      refine zv_v (rest := []) F (k_X2_name_14 l M7 ⟨hI, hW⟩ (-3) (by omega) (by omega) g13 (by omega) (by omega)) cs_X2_42 (T := TX2) (N := 5) (ci := 2) rfl gs_14 (by decide) (by decide) rfl rfl rfl (Nat.le_of_ble_eq_true rfl) dX2_forbids_58 (fun M14 hI p15 => ?_)
      obtain ⟨hI, hW⟩ := hI
      have fp15 := p15
      have hF := hF.call fp15 (by decide)
      refine z_aload_n F dX2_forbids_61 rfl (q := 0) rfl ?_
      refine z_bipush F dX2_forbids_62 (by decide +kernel) ?_
      refine z_aload_n F dX2_forbids_64 rfl (q := 0) rfl ?_
      refine z_iload_n F dX2_forbids_65 rfl (q := 2) rfl ?_
      refine zv_i (rest := [ii (-4), .ref (ad 14)]) F (k_X2_isOdd_14 l M14 ⟨hI, hW⟩ x1 (by omega) (by omega)) cs_X2_38 (T := TX2) (N := 5) (ci := 2) rfl gs_14 (by decide) (by decide) rfl rfl rfl (Nat.le_of_ble_eq_true rfl) dX2_forbids_66 (fun v16 M17 rv16 hI p18 => ?_)
      obtain ⟨hI, hW⟩ := hI
      obtain ⟨⟨av16, bv16⟩, rfl⟩ := p18
      have cutg20 : ∀ g20 : Int, 0 ≤ g20 → g20 ≤ 1 → Z D cy ad p l e (RMh 3) s m args below meth c A 8 0 0 Q 77 [(0, .ref (ad 14)), (1, ii x0), (2, ii x1), (3, ii x2), (4, ii x3)] [ii g20, ii (-4), .ref (ad 14)] M14 := by
        intro g20 ag20 bg20
        refine zv_v (rest := []) F (k_X2_name_14 l M14 ⟨hI, hW⟩ (-4) (by omega) (by omega) g20 (by omega) (by omega)) cs_X2_42 (T := TX2) (N := 5) (ci := 2) rfl gs_14 (by decide) (by decide) rfl rfl rfl (Nat.le_of_ble_eq_true rfl) dX2_forbids_77 (fun M21 hI p22 => ?_)
        obtain ⟨hI, hW⟩ := hI
        have fp22 := p22
        have hF := hF.call fp22 (by decide)
        refine z_aload_n F dX2_forbids_80 rfl (q := 0) rfl ?_
        refine z_bipush F dX2_forbids_81 (by decide +kernel) ?_
        refine z_aload_n F dX2_forbids_83 rfl (q := 0) rfl ?_
        refine z_iload_n F dX2_forbids_84 rfl (q := 1) rfl ?_
        refine zv_i (rest := [ii (-5), .ref (ad 14)]) F (k_X2_isEven_14 l M21 ⟨hI, hW⟩ x0 (by omega) (by omega)) cs_X2_46 (T := TX2) (N := 5) (ci := 2) rfl gs_14 (by decide) (by decide) rfl rfl rfl (Nat.le_of_ble_eq_true rfl) dX2_forbids_85 (fun v23 M24 rv23 hI p25 => ?_)
        obtain ⟨hI, hW⟩ := hI
        obtain ⟨⟨av23, bv23⟩, rfl⟩ := p25
        have cutg27 : ∀ g27 : Int, 0 ≤ g27 → g27 ≤ 1 → Z D cy ad p l e (RMh 3) s m args below meth c A 8 0 0 Q 96 [(0, .ref (ad 14)), (1, ii x0), (2, ii x1), (3, ii x2), (4, ii x3)] [ii g27, ii (-5), .ref (ad 14)] M21 := by
          intro g27 ag27 bg27
          refine zv_v (rest := []) F (k_X2_name_14 l M21 ⟨hI, hW⟩ (-5) (by omega) (by omega) g27 (by omega) (by omega)) cs_X2_42 (T := TX2) (N := 5) (ci := 2) rfl gs_14 (by decide) (by decide) rfl rfl rfl (Nat.le_of_ble_eq_true rfl) dX2_forbids_96 (fun M28 hI p29 => ?_)
          obtain ⟨hI, hW⟩ := hI
          have fp29 := p29
          have hF := hF.call fp29 (by decide)
          refine z_aload_n F dX2_forbids_99 rfl (q := 0) rfl ?_
          refine z_bipush F dX2_forbids_100 (by decide +kernel) ?_
          refine z_aload_n F dX2_forbids_102 rfl (q := 0) rfl ?_
          refine z_iload_n F dX2_forbids_103 rfl (q := 2) rfl ?_
          refine zv_i (rest := [ii (-6), .ref (ad 14)]) F (k_X2_isEven_14 l M28 ⟨hI, hW⟩ x1 (by omega) (by omega)) cs_X2_46 (T := TX2) (N := 5) (ci := 2) rfl gs_14 (by decide) (by decide) rfl rfl rfl (Nat.le_of_ble_eq_true rfl) dX2_forbids_104 (fun v30 M31 rv30 hI p32 => ?_)
          obtain ⟨hI, hW⟩ := hI
          obtain ⟨⟨av30, bv30⟩, rfl⟩ := p32
          have cutg34 : ∀ g34 : Int, 0 ≤ g34 → g34 ≤ 1 → Z D cy ad p l e (RMh 3) s m args below meth c A 8 0 0 Q 115 [(0, .ref (ad 14)), (1, ii x0), (2, ii x1), (3, ii x2), (4, ii x3)] [ii g34, ii (-6), .ref (ad 14)] M28 := by
            intro g34 ag34 bg34
            refine zv_v (rest := []) F (k_X2_name_14 l M28 ⟨hI, hW⟩ (-6) (by omega) (by omega) g34 (by omega) (by omega)) cs_X2_42 (T := TX2) (N := 5) (ci := 2) rfl gs_14 (by decide) (by decide) rfl rfl rfl (Nat.le_of_ble_eq_true rfl) dX2_forbids_115 (fun M35 hI p36 => ?_)
            obtain ⟨hI, hW⟩ := hI
            have fp36 := p36
            have hF := hF.call fp36 (by decide)
            refine z_aload_n F dX2_forbids_118 rfl (q := 0) rfl ?_
            refine z_bipush F dX2_forbids_119 (by decide +kernel) ?_
            refine z_iload_n F dX2_forbids_121 rfl (q := 3) rfl ?_
            have cutg38 : ∀ g38 : Int, 0 ≤ g38 → g38 ≤ 1 → Z D cy ad p l e (RMh 3) s m args below meth c A 8 0 0 Q 130 [(0, .ref (ad 14)), (1, ii x0), (2, ii x1), (3, ii x2), (4, ii x3)] [ii g38, ii (-7), .ref (ad 14)] M35 := by
              intro g38 ag38 bg38
              refine zv_v (rest := []) F (k_X2_name_14 l M35 ⟨hI, hW⟩ (-7) (by omega) (by omega) g38 (by omega) (by omega)) cs_X2_42 (T := TX2) (N := 5) (ci := 2) rfl gs_14 (by decide) (by decide) rfl rfl rfl (Nat.le_of_ble_eq_true rfl) dX2_forbids_130 (fun M39 hI p40 => ?_)
              obtain ⟨hI, hW⟩ := hI
              have fp40 := p40
              have hF := hF.call fp40 (by decide)
              refine z_aload_n F dX2_forbids_133 rfl (q := 0) rfl ?_
              refine z_bipush F dX2_forbids_134 (by decide +kernel) ?_
              refine z_iload F dX2_forbids_136 (q := 4) rfl ?_
              have cutg42 : ∀ g42 : Int, 0 ≤ g42 → g42 ≤ 1 → Z D cy ad p l e (RMh 3) s m args below meth c A 8 0 0 Q 146 [(0, .ref (ad 14)), (1, ii x0), (2, ii x1), (3, ii x2), (4, ii x3)] [ii g42, ii (-8), .ref (ad 14)] M39 := by
                intro g42 ag42 bg42
                refine zv_v (rest := []) F (k_X2_name_14 l M39 ⟨hI, hW⟩ (-8) (by omega) (by omega) g42 (by omega) (by omega)) cs_X2_42 (T := TX2) (N := 5) (ci := 2) rfl gs_14 (by decide) (by decide) rfl rfl rfl (Nat.le_of_ble_eq_true rfl) dX2_forbids_146 (fun M43 hI p44 => ?_)
                obtain ⟨hI, hW⟩ := hI
                have fp44 := p44
                have hF := hF.call fp44 (by decide)
                refine z_iconst F dX2_forbids_149 ?_
                refine z_istore F dX2_forbids_150 (by decide) (ls' := [(5, ii 0), (0, .ref (ad 14)), (1, ii x0), (2, ii x1), (3, ii x2), (4, ii x3)]) rfl ?_
                refine z_iconst F dX2_forbids_152 ?_
                refine z_istore F dX2_forbids_153 (by decide) (ls' := [(6, ii 0), (5, ii 0), (0, .ref (ad 14)), (1, ii x0), (2, ii x1), (3, ii x2), (4, ii x3)]) rfl ?_
                refine z_loc [2, 1, 0] (ls' := [(0, .ref (ad 14)), (5, ii 0), (6, ii 0)]) rfl ?_
                suffices key155 : ∀ (n : Nat) (y46 : Int) (y47 : Int) (M45 : Mem), Inv M45 → WFk M45 → Fr [16, 17] M M45 → 0 ≤ y46 → y46 ≤ 64 → 0 ≤ y47 → y47 ≤ 900 → 900 - y47 < (n : Int) → Z D cy ad p l e (RMh 3) s m args below meth c A 8 0 0 Q 155 [(0, .ref (ad 14)), (5, ii y46), (6, ii y47)] [] M45 from key155 901 0 0 M43 hI hW hF (by omega) (by omega) (by omega) (by omega) (by omega)
                intro n155
                induction n155 with
                | zero => intro y46 y47 M45 hI hW hF ay46 by46 ay47 by47 hn155; exfalso; omega
                | succ n155 ih155 =>
                  intro y46 y47 M45 hI hW hF ay46 by46 ay47 by47 hn155
                  refine z_iload F dX2_forbids_155 (q := 2) rfl ?_
                  refine z_aload_n F dX2_forbids_157 rfl (q := 0) rfl ?_
                  refine gf_X2_25 F hI gs_14 rfl bd_14_1 dX2_forbids_158 (fun v48 ev48 av48 bv48 => ?_)
                  refine z_icmp_ge (tgt := 302) F dX2_forbids_161 (by decide +kernel) (by omega) (by omega) (fun c49 => ?_) (fun c49 => ?_)
                  · refine z_iload F dX2_forbids_302 (q := 1) rfl ?_
                    refine z_if_le (tgt := 320) F dX2_forbids_304 (by decide +kernel) (by omega) (fun c50 => ?_) (fun c50 => ?_)
                    · refine z_iconst F dX2_forbids_320 ?_
                      exact hret _ _ 321 _ ⟨by omega, by omega⟩ ⟨hI, hW⟩ ⟨⟨by omega, by omega⟩, hF⟩ dX2_forbids_321
                    · refine z_aload_n F dX2_forbids_307 rfl (q := 0) rfl ?_
                      refine rf_X2_19 F gs_14 rfl dX2_forbids_308 ?_
                      refine z_iconst F dX2_forbids_311 ?_
                      refine z_iald F hI gs_16 (by omega) (by omega) (by decide) bd_16 dX2_forbids_312 (fun v51 (ev51 : v51 = M45 16 0) av51 bv51 => ?_)
                      have cutg53 : ∀ g53 : Int, 0 ≤ g53 → g53 ≤ 1 → Z D cy ad p l e (RMh 3) s m args below meth c A 8 0 0 Q 321 [(0, .ref (ad 14)), (5, ii y46), (6, ii y47)] [ii g53] M45 := by
                        intro g53 ag53 bg53
                        exact hret _ _ 321 _ ⟨by omega, by omega⟩ ⟨hI, hW⟩ ⟨⟨by omega, by omega⟩, hF⟩ dX2_forbids_321
                      refine z_if_ne (tgt := 320) F dX2_forbids_313 (by decide +kernel) (by omega) (fun c52 => ?_) (fun c52 => ?_)
                      · refine z_iconst F dX2_forbids_320 ?_
                        exact cutg53 0 (by decide) (by decide)
                      · refine z_iconst F dX2_forbids_316 ?_
                        refine z_goto (tgt := 321) F dX2_forbids_317 (by decide +kernel) ?_
                        exact cutg53 1 (by decide) (by decide)
                  · refine z_aload_n F dX2_forbids_164 rfl (q := 0) rfl ?_
                    refine rf_X2_9 F gs_14 rfl dX2_forbids_165 ?_
                    refine z_iload F dX2_forbids_168 (q := 2) rfl ?_
                    refine z_iald F hI gs_15 (by omega) (by omega) (by decide) bd_15 dX2_forbids_170 (fun v54 (ev54 : v54 = M45 15 _) av54 bv54 => ?_)
                    refine z_istore F dX2_forbids_171 (by decide) (ls' := [(7, ii v54), (0, .ref (ad 14)), (5, ii y46), (6, ii y47)]) rfl ?_
                    refine z_iload F dX2_forbids_173 (q := 0) rfl ?_
                    refine z_bipush F dX2_forbids_175 (by decide +kernel) ?_
                    refine z_icmp_lt (tgt := 222) F dX2_forbids_177 (by decide +kernel) (by omega) (by omega) (fun c55 => ?_) (fun c55 => ?_)
                    · refine z_iload F dX2_forbids_222 (q := 0) rfl ?_
                      refine z_bipush F dX2_forbids_224 (by decide +kernel) ?_
                      refine z_icmp_ne (tgt := 257) F dX2_forbids_226 (by decide +kernel) (by omega) (by omega) (fun c56 => ?_) (fun c56 => ?_)
                      · refine z_iload F dX2_forbids_257 (q := 2) rfl ?_
                        refine z_iconst F dX2_forbids_259 ?_
                        refine z_icmp_le (tgt := 296) F dX2_forbids_260 (by decide +kernel) (by omega) (by omega) (fun c57 => ?_) (fun c57 => ?_)
                        · refine z_iincN F dX2_forbids_296 (q := 3) rfl (by decide) (fun v58 ev58 => ?_)
                          refine z_eq (ls' := [(6, ii v58), (7, ii v54), (0, .ref (ad 14)), (5, ii y46)]) rfl rfl rfl ?_
                          refine z_goto (tgt := 155) F dX2_forbids_299 (by decide +kernel) ?_
                          refine z_loc [2, 3, 0] (ls' := [(0, .ref (ad 14)), (5, ii y46), (6, ii v58)]) rfl ?_
                          exact ih155 y46 v58 M45 hI hW hF (by omega) (by omega) (by omega) (by omega) (by omega)
                        · refine z_iincN F dX2_forbids_263 (q := 2) rfl (by decide) (fun v59 ev59 => ?_)
                          refine z_eq (ls' := [(5, ii v59), (7, ii v54), (0, .ref (ad 14)), (6, ii y47)]) rfl rfl rfl ?_
                          refine z_aload_n F dX2_forbids_266 rfl (q := 2) rfl ?_
                          refine rf_X2_19 F gs_14 rfl dX2_forbids_267 ?_
                          refine z_iload F dX2_forbids_270 (q := 0) rfl ?_
                          refine z_iconst F dX2_forbids_272 ?_
                          refine z_isub F dX2_forbids_273 ?_
                          refine z_iload F dX2_forbids_274 (q := 1) rfl ?_
                          refine z_aload_n F dX2_forbids_276 rfl (q := 2) rfl ?_
                          refine rf_X2_19 F gs_14 rfl dX2_forbids_277 ?_
                          refine z_iload F dX2_forbids_280 (q := 0) rfl ?_
                          refine z_iconst F dX2_forbids_282 ?_
                          refine z_isub F dX2_forbids_283 ?_
                          refine z_iald F hI gs_16 (by omega) (by omega) (by decide) bd_16 dX2_forbids_284 (fun v60 (ev60 : v60 = M45 16 _) av60 bv60 => ?_)
                          refine z_aload_n F dX2_forbids_285 rfl (q := 2) rfl ?_
                          refine rf_X2_19 F gs_14 rfl dX2_forbids_286 ?_
                          refine z_iload F dX2_forbids_289 (q := 0) rfl ?_
                          refine z_iald F hI gs_16 (by omega) (by omega) (by decide) bd_16 dX2_forbids_291 (fun v61 (ev61 : v61 = M45 16 _) av61 bv61 => ?_)
                          refine zs_i (rest := [ii (v59 - 1), .ref (ad 16)]) F (k_X2_work l M45 ⟨hI, hW⟩ v54 (by omega) (by omega) v60 (by omega) (by omega) v61 (by omega) (by omega)) cs_X2_49 (by decide) (by decide) rfl rfl rfl (Nat.le_of_ble_eq_true rfl) dX2_forbids_292 (fun v62 M63 rv62 hI p64 => ?_)
                          obtain ⟨hI, hW⟩ := hI
                          obtain ⟨⟨av62, bv62⟩, rfl⟩ := p64
                          refine z_iast F hI gs_16 (by omega) (by omega) (by decide) bd_16 dX2_forbids_295 (by omega) (by omega) (fun M66 hI sf65 f65 => ?_)
                          have hF := hF.wr f65 (by decide) (by decide)
                          have hW : WFk M66 := hW.site f65 (by decide)
                          refine z_iincN F dX2_forbids_296 (q := 3) rfl (by decide) (fun v67 ev67 => ?_)
                          refine z_eq (ls' := [(6, ii v67), (5, ii v59), (7, ii v54), (0, .ref (ad 14))]) rfl rfl rfl ?_
                          refine z_goto (tgt := 155) F dX2_forbids_299 (by decide +kernel) ?_
                          refine z_loc [3, 1, 0] (ls' := [(0, .ref (ad 14)), (5, ii v59), (6, ii v67)]) rfl ?_
                          exact ih155 v59 v67 M66 hI hW hF (by omega) (by omega) (by omega) (by omega) (by omega)
                      · refine z_iload F dX2_forbids_229 (q := 2) rfl ?_
                        refine z_if_le (tgt := 296) F dX2_forbids_231 (by decide +kernel) (by omega) (fun c68 => ?_) (fun c68 => ?_)
                        · refine z_iincN F dX2_forbids_296 (q := 3) rfl (by decide) (fun v69 ev69 => ?_)
                          refine z_eq (ls' := [(6, ii v69), (7, ii v54), (0, .ref (ad 14)), (5, ii y46)]) rfl rfl rfl ?_
                          refine z_goto (tgt := 155) F dX2_forbids_299 (by decide +kernel) ?_
                          refine z_loc [2, 3, 0] (ls' := [(0, .ref (ad 14)), (5, ii y46), (6, ii v69)]) rfl ?_
                          exact ih155 y46 v69 M45 hI hW hF (by omega) (by omega) (by omega) (by omega) (by omega)
                        · refine z_aload_n F dX2_forbids_234 rfl (q := 1) rfl ?_
                          refine rf_X2_19 F gs_14 rfl dX2_forbids_235 ?_
                          refine z_iload F dX2_forbids_238 (q := 2) rfl ?_
                          refine z_iconst F dX2_forbids_240 ?_
                          refine z_isub F dX2_forbids_241 ?_
                          refine z_iconst F dX2_forbids_242 ?_
                          refine z_aload_n F dX2_forbids_243 rfl (q := 1) rfl ?_
                          refine rf_X2_19 F gs_14 rfl dX2_forbids_244 ?_
                          refine z_iload F dX2_forbids_247 (q := 2) rfl ?_
                          refine z_iconst F dX2_forbids_249 ?_
                          refine z_isub F dX2_forbids_250 ?_
                          refine z_iald F hI gs_16 (by omega) (by omega) (by decide) bd_16 dX2_forbids_251 (fun v70 (ev70 : v70 = M45 16 _) av70 bv70 => ?_)
                          refine z_isub F dX2_forbids_252 ?_
                          refine z_wrap (fun v71 rv71 wv71 => ?_)
                          refine z_iast F hI gs_16 (by omega) (by omega) (by decide) bd_16 dX2_forbids_253 (by omega) (by omega) (fun M73 hI sf72 f72 => ?_)
                          have hF := hF.wr f72 (by decide) (by decide)
                          have hW : WFk M73 := hW.site f72 (by decide)
                          refine z_goto (tgt := 296) F dX2_forbids_254 (by decide +kernel) ?_
                          refine z_iincN F dX2_forbids_296 (q := 3) rfl (by decide) (fun v74 ev74 => ?_)
                          refine z_eq (ls' := [(6, ii v74), (7, ii v54), (0, .ref (ad 14)), (5, ii y46)]) rfl rfl rfl ?_
                          refine z_goto (tgt := 155) F dX2_forbids_299 (by decide +kernel) ?_
                          refine z_loc [2, 3, 0] (ls' := [(0, .ref (ad 14)), (5, ii y46), (6, ii v74)]) rfl ?_
                          exact ih155 y46 v74 M73 hI hW hF (by omega) (by omega) (by omega) (by omega) (by omega)
                    · refine z_iload F dX2_forbids_180 (q := 2) rfl ?_
                      refine z_aload_n F dX2_forbids_182 rfl (q := 1) rfl ?_
                      refine rf_X2_19 F gs_14 rfl dX2_forbids_183 ?_
                      refine z_alen (x := 64) F gs_16 rfl rfl dX2_forbids_186 ?_
                      refine z_icmp_ge (tgt := 296) F dX2_forbids_187 (by decide +kernel) (by omega) (by omega) (fun c75 => ?_) (fun c75 => ?_)
                      · refine z_iincN F dX2_forbids_296 (q := 3) rfl (by decide) (fun v76 ev76 => ?_)
                        refine z_eq (ls' := [(6, ii v76), (7, ii v54), (0, .ref (ad 14)), (5, ii y46)]) rfl rfl rfl ?_
                        refine z_goto (tgt := 155) F dX2_forbids_299 (by decide +kernel) ?_
                        refine z_loc [2, 3, 0] (ls' := [(0, .ref (ad 14)), (5, ii y46), (6, ii v76)]) rfl ?_
                        exact ih155 y46 v76 M45 hI hW hF (by omega) (by omega) (by omega) (by omega) (by omega)
                      · refine z_aload_n F dX2_forbids_190 rfl (q := 1) rfl ?_
                        refine rf_X2_19 F gs_14 rfl dX2_forbids_191 ?_
                        refine z_iload F dX2_forbids_194 (q := 2) rfl ?_
                        refine z_iload F dX2_forbids_196 (q := 0) rfl ?_
                        refine z_if_lt (tgt := 206) F dX2_forbids_198 (by decide +kernel) (by omega) (fun c77 => ?_) (fun c77 => ?_)
                        · refine z_aload_n F dX2_forbids_206 rfl (q := 1) rfl ?_
                          refine rf_X2_22 F gs_14 rfl dX2_forbids_207 ?_
                          refine z_iconst F dX2_forbids_210 ?_
                          refine z_iload F dX2_forbids_211 (q := 0) rfl ?_
                          refine z_isub F dX2_forbids_213 ?_
                          refine z_iald F hI gs_17 (by omega) (by omega) (by decide) bd_17 dX2_forbids_214 (fun v78 (ev78 : v78 = M45 17 _) av78 bv78 => ?_)
                          refine z_iast F hI gs_16 (by omega) (by omega) (by decide) bd_16 dX2_forbids_215 (by omega) (by omega) (fun M80 hI sf79 f79 => ?_)
                          have hF := hF.wr f79 (by decide) (by decide)
                          have hW : WFk M80 := hW.site f79 (by decide)
                          refine z_iincN F dX2_forbids_216 (q := 2) rfl (by decide) (fun v81 ev81 => ?_)
                          refine z_eq (ls' := [(5, ii v81), (7, ii v54), (0, .ref (ad 14)), (6, ii y47)]) rfl rfl rfl ?_
                          refine z_goto (tgt := 296) F dX2_forbids_219 (by decide +kernel) ?_
                          refine z_iincN F dX2_forbids_296 (q := 3) rfl (by decide) (fun v82 ev82 => ?_)
                          refine z_eq (ls' := [(6, ii v82), (5, ii v81), (7, ii v54), (0, .ref (ad 14))]) rfl rfl rfl ?_
                          refine z_goto (tgt := 155) F dX2_forbids_299 (by decide +kernel) ?_
                          refine z_loc [3, 1, 0] (ls' := [(0, .ref (ad 14)), (5, ii v81), (6, ii v82)]) rfl ?_
                          exact ih155 v81 v82 M80 hI hW hF (by omega) (by omega) (by omega) (by omega) (by omega)
                        · refine z_iload F dX2_forbids_201 (q := 0) rfl ?_
                          refine z_goto (tgt := 215) F dX2_forbids_203 (by decide +kernel) ?_
                          refine z_iast F hI gs_16 (by omega) (by omega) (by decide) bd_16 dX2_forbids_215 (by omega) (by omega) (fun M84 hI sf83 f83 => ?_)
                          have hF := hF.wr f83 (by decide) (by decide)
                          have hW : WFk M84 := hW.site f83 (by decide)
                          refine z_iincN F dX2_forbids_216 (q := 2) rfl (by decide) (fun v85 ev85 => ?_)
                          refine z_eq (ls' := [(5, ii v85), (7, ii v54), (0, .ref (ad 14)), (6, ii y47)]) rfl rfl rfl ?_
                          refine z_goto (tgt := 296) F dX2_forbids_219 (by decide +kernel) ?_
                          refine z_iincN F dX2_forbids_296 (q := 3) rfl (by decide) (fun v86 ev86 => ?_)
                          refine z_eq (ls' := [(6, ii v86), (5, ii v85), (7, ii v54), (0, .ref (ad 14))]) rfl rfl rfl ?_
                          refine z_goto (tgt := 155) F dX2_forbids_299 (by decide +kernel) ?_
                          refine z_loc [3, 1, 0] (ls' := [(0, .ref (ad 14)), (5, ii v85), (6, ii v86)]) rfl ?_
                          exact ih155 v85 v86 M84 hI hW hF (by omega) (by omega) (by omega) (by omega) (by omega)
              refine z_if_eq (tgt := 145) F dX2_forbids_138 (by decide +kernel) (by omega) (fun c41 => ?_) (fun c41 => ?_)
              · refine z_iconst F dX2_forbids_145 ?_
                exact cutg42 0 (by decide) (by decide)
              · refine z_iconst F dX2_forbids_141 ?_
                refine z_goto (tgt := 146) F dX2_forbids_142 (by decide +kernel) ?_
                exact cutg42 1 (by decide) (by decide)
            refine z_if_eq (tgt := 129) F dX2_forbids_122 (by decide +kernel) (by omega) (fun c37 => ?_) (fun c37 => ?_)
            · refine z_iconst F dX2_forbids_129 ?_
              exact cutg38 0 (by decide) (by decide)
            · refine z_iconst F dX2_forbids_125 ?_
              refine z_goto (tgt := 130) F dX2_forbids_126 (by decide +kernel) ?_
              exact cutg38 1 (by decide) (by decide)
          refine z_if_eq (tgt := 114) F dX2_forbids_107 (by decide +kernel) (by omega) (fun c33 => ?_) (fun c33 => ?_)
          · refine z_iconst F dX2_forbids_114 ?_
            exact cutg34 0 (by decide) (by decide)
          · refine z_iconst F dX2_forbids_110 ?_
            refine z_goto (tgt := 115) F dX2_forbids_111 (by decide +kernel) ?_
            exact cutg34 1 (by decide) (by decide)
        refine z_if_eq (tgt := 95) F dX2_forbids_88 (by decide +kernel) (by omega) (fun c26 => ?_) (fun c26 => ?_)
        · refine z_iconst F dX2_forbids_95 ?_
          exact cutg27 0 (by decide) (by decide)
        · refine z_iconst F dX2_forbids_91 ?_
          refine z_goto (tgt := 96) F dX2_forbids_92 (by decide +kernel) ?_
          exact cutg27 1 (by decide) (by decide)
      refine z_if_eq (tgt := 76) F dX2_forbids_69 (by decide +kernel) (by omega) (fun c19 => ?_) (fun c19 => ?_)
      · refine z_iconst F dX2_forbids_76 ?_
        exact cutg20 0 (by decide) (by decide)
      · refine z_iconst F dX2_forbids_72 ?_
        refine z_goto (tgt := 77) F dX2_forbids_73 (by decide +kernel) ?_
        exact cutg20 1 (by decide) (by decide)
    refine z_if_eq (tgt := 57) F dX2_forbids_50 (by decide +kernel) (by omega) (fun c12 => ?_) (fun c12 => ?_)
    · refine z_iconst F dX2_forbids_57 ?_
      exact cutg13 0 (by decide) (by decide)
    · refine z_iconst F dX2_forbids_53 ?_
      refine z_goto (tgt := 58) F dX2_forbids_54 (by decide +kernel) ?_
      exact cutg13 1 (by decide) (by decide)
  · refine z_aload_n F dX2_forbids_7 rfl (q := 0) rfl ?_
    refine z_iload_n F dX2_forbids_8 rfl (q := 1) rfl ?_
    refine zv_i (rest := []) F (k_X2_isOdd_14 l M ⟨hI, hW⟩ x0 (by omega) (by omega)) cs_X2_38 (T := TX2) (N := 5) (ci := 2) rfl gs_14 (by decide) (by decide) rfl rfl rfl (Nat.le_of_ble_eq_true rfl) dX2_forbids_9 (fun v87 M88 rv87 hI p89 => ?_)
    obtain ⟨hI, hW⟩ := hI
    obtain ⟨⟨av87, bv87⟩, rfl⟩ := p89
    refine z_if_eq (tgt := 27) F dX2_forbids_12 (by decide +kernel) (by omega) (fun c90 => ?_) (fun c90 => ?_)
    · refine z_iconst F dX2_forbids_27 ?_
      exact hret _ _ 28 _ ⟨by omega, by omega⟩ ⟨hI, hW⟩ ⟨⟨by omega, by omega⟩, hF⟩ dX2_forbids_28
    · refine z_aload_n F dX2_forbids_15 rfl (q := 0) rfl ?_
      refine z_iload_n F dX2_forbids_16 rfl (q := 2) rfl ?_
      refine zv_i (rest := []) F (k_X2_isOdd_14 l M ⟨hI, hW⟩ x1 (by omega) (by omega)) cs_X2_38 (T := TX2) (N := 5) (ci := 2) rfl gs_14 (by decide) (by decide) rfl rfl rfl (Nat.le_of_ble_eq_true rfl) dX2_forbids_17 (fun v91 M92 rv91 hI p93 => ?_)
      obtain ⟨hI, hW⟩ := hI
      obtain ⟨⟨av91, bv91⟩, rfl⟩ := p93
      have cutg95 : ∀ g95 : Int, 0 ≤ g95 → g95 ≤ 1 → Z D cy ad p l e (RMh 3) s m args below meth c A 8 0 0 Q 28 [(0, .ref (ad 14)), (1, ii x0), (2, ii x1), (3, ii x2), (4, ii x3)] [ii g95] M := by
        intro g95 ag95 bg95
        exact hret _ _ 28 _ ⟨by omega, by omega⟩ ⟨hI, hW⟩ ⟨⟨by omega, by omega⟩, hF⟩ dX2_forbids_28
      refine z_if_eq (tgt := 27) F dX2_forbids_20 (by decide +kernel) (by omega) (fun c94 => ?_) (fun c94 => ?_)
      · refine z_iconst F dX2_forbids_27 ?_
        exact cutg95 0 (by decide) (by decide)
      · refine z_iconst F dX2_forbids_23 ?_
        refine z_goto (tgt := 28) F dX2_forbids_24 (by decide +kernel) ?_
        exact cutg95 1 (by decide) (by decide)
set_option maxRecDepth 4000 in
theorem k_X7_mark_38 (l : Launch) (M : Mem) (hJ : Iw M) (x1 : Int) (hx1a : 0 ≤ x1) (hx1b : x1 ≤ 7) (x2 : Int) (hx2a : 0 ≤ x2) (hx2b : x2 ≤ 7) (x3 : Int) (hx3a : 0 ≤ x3) (hx3b : x3 ≤ 1) : CV l yX7_mark cX7_mark 4 none 1 (fun ad => [.ref (ad 38), ii x1, ii x2, ii x3]) M (fun M' => Fr [38] M M') := by
  obtain ⟨hI, hW⟩ := hJ
  have hF : Fr [38] M M := Fr.rf
  refine en_v (by decide +kernel) (fun ad => by exact Nat.le_of_ble_eq_true rfl) (fun D cy ad A p e s m args below meth c Q F hret => ?_)
  refine z_eq (ls' := [(0, .ref (ad 38)), (1, ii x1), (2, ii x2), (3, ii x3)]) rfl rfl rfl ?_
  refine z_aload_n F dX7_mark_0 rfl (q := 0) rfl ?_
  refine z_iload_n F dX7_mark_1 rfl (q := 1) rfl ?_
  refine z_iload_n F dX7_mark_2 rfl (q := 3) rfl ?_
  refine z_if_eq (tgt := 16) F dX7_mark_3 (by decide +kernel) (by omega) (fun c1 => ?_) (fun c1 => ?_)
  · refine z_aload_n F dX7_mark_16 rfl (q := 0) rfl ?_
    refine z_iload_n F dX7_mark_17 rfl (q := 1) rfl ?_
    refine z_iald F hI gs_38 (by omega) (by omega) (by decide) bd_38 dX7_mark_18 (fun v2 (ev2 : v2 = M 38 _) av2 bv2 => ?_)
    refine z_iconst F dX7_mark_19 ?_
    refine z_iload_n F dX7_mark_20 rfl (q := 2) rfl ?_
    refine z_shl1 (k := 7) F dX7_mark_21 (by decide) (by omega) (by omega) (fun v3 ev3 av3 bv3 => ?_)
    refine z_iconst F dX7_mark_22 ?_
    refine z_ixor0 F dX7_mark_23 (fun v4 ev4 rv4 => ?_)
    refine z_iand0 F dX7_mark_24 (fun v5 ev5 rv5 => ?_)
    refine z_iast F hI gs_38 (by omega) (by omega) (by decide) bd_38 dX7_mark_25 (by omega) (by omega) (fun M7 hI sf6 f6 => ?_)
    have hF := hF.wr f6 (by decide) (by decide)
    have hW : WFk M7 := hW.site f6 (by decide)
    refine z_aload_n F dX7_mark_26 rfl (q := 0) rfl ?_
    refine z_iload_n F dX7_mark_27 rfl (q := 2) rfl ?_
    refine z_iload_n F dX7_mark_28 rfl (q := 3) rfl ?_
    refine z_if_eq (tgt := 42) F dX7_mark_29 (by decide +kernel) (by omega) (fun c8 => ?_) (fun c8 => by exfalso; omega)
    refine z_aload_n F dX7_mark_42 rfl (q := 0) rfl ?_
    refine z_iload_n F dX7_mark_43 rfl (q := 2) rfl ?_
    refine z_iald F hI gs_38 (by omega) (by omega) (by decide) bd_38 dX7_mark_44 (fun v9 (ev9 : v9 = M7 38 _) av9 bv9 => ?_)
    refine z_iconst F dX7_mark_45 ?_
    refine z_iload_n F dX7_mark_46 rfl (q := 1) rfl ?_
    refine z_shl1 (k := 7) F dX7_mark_47 (by decide) (by omega) (by omega) (fun v10 ev10 av10 bv10 => ?_)
    refine z_iconst F dX7_mark_48 ?_
    refine z_ixor0 F dX7_mark_49 (fun v11 ev11 rv11 => ?_)
    refine z_iand0 F dX7_mark_50 (fun v12 ev12 rv12 => ?_)
    refine z_iast F hI gs_38 (by omega) (by omega) (by decide) bd_38 dX7_mark_51 (by omega) (by omega) (fun M14 hI sf13 f13 => ?_)
    have hF := hF.wr f13 (by decide) (by decide)
    have hW : WFk M14 := hW.site f13 (by decide)
    exact hret _ 52 _ ⟨hI, hW⟩ hF dX7_mark_52
  · refine z_aload_n F dX7_mark_6 rfl (q := 0) rfl ?_
    refine z_iload_n F dX7_mark_7 rfl (q := 1) rfl ?_
    refine z_iald F hI gs_38 (by omega) (by omega) (by decide) bd_38 dX7_mark_8 (fun v15 (ev15 : v15 = M 38 _) av15 bv15 => ?_)
    refine z_iconst F dX7_mark_9 ?_
    refine z_iload_n F dX7_mark_10 rfl (q := 2) rfl ?_
    refine z_shl1 (k := 7) F dX7_mark_11 (by decide) (by omega) (by omega) (fun v16 ev16 av16 bv16 => ?_)
    refine z_ior0 F dX7_mark_12 (fun v17 ev17 rv17 => ?_)
    refine z_goto (tgt := 25) F dX7_mark_13 (by decide +kernel) ?_
    refine z_iast F hI gs_38 (by omega) (by omega) (by decide) bd_38 dX7_mark_25 (by omega) (by omega) (fun M19 hI sf18 f18 => ?_)
    have hF := hF.wr f18 (by decide) (by decide)
    have hW : WFk M19 := hW.site f18 (by decide)
    refine z_aload_n F dX7_mark_26 rfl (q := 0) rfl ?_
    refine z_iload_n F dX7_mark_27 rfl (q := 2) rfl ?_
    refine z_iload_n F dX7_mark_28 rfl (q := 3) rfl ?_
    refine z_if_eq (tgt := 42) F dX7_mark_29 (by decide +kernel) (by omega) (fun c20 => by exfalso; omega) (fun c20 => ?_)
    refine z_aload_n F dX7_mark_32 rfl (q := 0) rfl ?_
    refine z_iload_n F dX7_mark_33 rfl (q := 2) rfl ?_
    refine z_iald F hI gs_38 (by omega) (by omega) (by decide) bd_38 dX7_mark_34 (fun v21 (ev21 : v21 = M19 38 _) av21 bv21 => ?_)
    refine z_iconst F dX7_mark_35 ?_
    refine z_iload_n F dX7_mark_36 rfl (q := 1) rfl ?_
    refine z_shl1 (k := 7) F dX7_mark_37 (by decide) (by omega) (by omega) (fun v22 ev22 av22 bv22 => ?_)
    refine z_ior0 F dX7_mark_38 (fun v23 ev23 rv23 => ?_)
    refine z_goto (tgt := 51) F dX7_mark_39 (by decide +kernel) ?_
    refine z_iast F hI gs_38 (by omega) (by omega) (by decide) bd_38 dX7_mark_51 (by omega) (by omega) (fun M25 hI sf24 f24 => ?_)
    have hF := hF.wr f24 (by decide) (by decide)
    have hW : WFk M25 := hW.site f24 (by decide)
    exact hret _ 52 _ ⟨hI, hW⟩ hF dX7_mark_52
set_option maxRecDepth 4000 in
theorem k_X7_mark_39 (l : Launch) (M : Mem) (hJ : Iw M) (x1 : Int) (hx1a : 0 ≤ x1) (hx1b : x1 ≤ 7) (x2 : Int) (hx2a : 0 ≤ x2) (hx2b : x2 ≤ 7) (x3 : Int) (hx3a : 0 ≤ x3) (hx3b : x3 ≤ 1) : CV l yX7_mark cX7_mark 4 none 1 (fun ad => [.ref (ad 39), ii x1, ii x2, ii x3]) M (fun M' => Fr [39] M M') := by
  obtain ⟨hI, hW⟩ := hJ
  have hF : Fr [39] M M := Fr.rf
  refine en_v (by decide +kernel) (fun ad => by exact Nat.le_of_ble_eq_true rfl) (fun D cy ad A p e s m args below meth c Q F hret => ?_)
  refine z_eq (ls' := [(0, .ref (ad 39)), (1, ii x1), (2, ii x2), (3, ii x3)]) rfl rfl rfl ?_
  refine z_aload_n F dX7_mark_0 rfl (q := 0) rfl ?_
  refine z_iload_n F dX7_mark_1 rfl (q := 1) rfl ?_
  refine z_iload_n F dX7_mark_2 rfl (q := 3) rfl ?_
  refine z_if_eq (tgt := 16) F dX7_mark_3 (by decide +kernel) (by omega) (fun c1 => ?_) (fun c1 => ?_)
  · refine z_aload_n F dX7_mark_16 rfl (q := 0) rfl ?_
    refine z_iload_n F dX7_mark_17 rfl (q := 1) rfl ?_
    refine z_iald F hI gs_39 (by omega) (by omega) (by decide) bd_39 dX7_mark_18 (fun v2 (ev2 : v2 = M 39 _) av2 bv2 => ?_)
    refine z_iconst F dX7_mark_19 ?_
    refine z_iload_n F dX7_mark_20 rfl (q := 2) rfl ?_
    refine z_shl1 (k := 7) F dX7_mark_21 (by decide) (by omega) (by omega) (fun v3 ev3 av3 bv3 => ?_)
    refine z_iconst F dX7_mark_22 ?_
    refine z_ixor0 F dX7_mark_23 (fun v4 ev4 rv4 => ?_)
    refine z_iand0 F dX7_mark_24 (fun v5 ev5 rv5 => ?_)
    refine z_iast F hI gs_39 (by omega) (by omega) (by decide) bd_39 dX7_mark_25 (by omega) (by omega) (fun M7 hI sf6 f6 => ?_)
    have hF := hF.wr f6 (by decide) (by decide)
    have hW : WFk M7 := hW.site f6 (by decide)
    refine z_aload_n F dX7_mark_26 rfl (q := 0) rfl ?_
    refine z_iload_n F dX7_mark_27 rfl (q := 2) rfl ?_
    refine z_iload_n F dX7_mark_28 rfl (q := 3) rfl ?_
    refine z_if_eq (tgt := 42) F dX7_mark_29 (by decide +kernel) (by omega) (fun c8 => ?_) (fun c8 => by exfalso; omega)
    refine z_aload_n F dX7_mark_42 rfl (q := 0) rfl ?_
    refine z_iload_n F dX7_mark_43 rfl (q := 2) rfl ?_
    refine z_iald F hI gs_39 (by omega) (by omega) (by decide) bd_39 dX7_mark_44 (fun v9 (ev9 : v9 = M7 39 _) av9 bv9 => ?_)
    refine z_iconst F dX7_mark_45 ?_
    refine z_iload_n F dX7_mark_46 rfl (q := 1) rfl ?_
    refine z_shl1 (k := 7) F dX7_mark_47 (by decide) (by omega) (by omega) (fun v10 ev10 av10 bv10 => ?_)
    refine z_iconst F dX7_mark_48 ?_
    refine z_ixor0 F dX7_mark_49 (fun v11 ev11 rv11 => ?_)
    refine z_iand0 F dX7_mark_50 (fun v12 ev12 rv12 => ?_)
    refine z_iast F hI gs_39 (by omega) (by omega) (by decide) bd_39 dX7_mark_51 (by omega) (by omega) (fun M14 hI sf13 f13 => ?_)
    have hF := hF.wr f13 (by decide) (by decide)
    have hW : WFk M14 := hW.site f13 (by decide)
    exact hret _ 52 _ ⟨hI, hW⟩ hF dX7_mark_52
  · refine z_aload_n F dX7_mark_6 rfl (q := 0) rfl ?_
    refine z_iload_n F dX7_mark_7 rfl (q := 1) rfl ?_
    refine z_iald F hI gs_39 (by omega) (by omega) (by decide) bd_39 dX7_mark_8 (fun v15 (ev15 : v15 = M 39 _) av15 bv15 => ?_)
    refine z_iconst F dX7_mark_9 ?_
    refine z_iload_n F dX7_mark_10 rfl (q := 2) rfl ?_
    refine z_shl1 (k := 7) F dX7_mark_11 (by decide) (by omega) (by omega) (fun v16 ev16 av16 bv16 => ?_)
    refine z_ior0 F dX7_mark_12 (fun v17 ev17 rv17 => ?_)
    refine z_goto (tgt := 25) F dX7_mark_13 (by decide +kernel) ?_
    refine z_iast F hI gs_39 (by omega) (by omega) (by decide) bd_39 dX7_mark_25 (by omega) (by omega) (fun M19 hI sf18 f18 => ?_)
    have hF := hF.wr f18 (by decide) (by decide)
    have hW : WFk M19 := hW.site f18 (by decide)
    refine z_aload_n F dX7_mark_26 rfl (q := 0) rfl ?_
    refine z_iload_n F dX7_mark_27 rfl (q := 2) rfl ?_
    refine z_iload_n F dX7_mark_28 rfl (q := 3) rfl ?_
    refine z_if_eq (tgt := 42) F dX7_mark_29 (by decide +kernel) (by omega) (fun c20 => by exfalso; omega) (fun c20 => ?_)
    refine z_aload_n F dX7_mark_32 rfl (q := 0) rfl ?_
    refine z_iload_n F dX7_mark_33 rfl (q := 2) rfl ?_
    refine z_iald F hI gs_39 (by omega) (by omega) (by decide) bd_39 dX7_mark_34 (fun v21 (ev21 : v21 = M19 39 _) av21 bv21 => ?_)
    refine z_iconst F dX7_mark_35 ?_
    refine z_iload_n F dX7_mark_36 rfl (q := 1) rfl ?_
    refine z_shl1 (k := 7) F dX7_mark_37 (by decide) (by omega) (by omega) (fun v22 ev22 av22 bv22 => ?_)
    refine z_ior0 F dX7_mark_38 (fun v23 ev23 rv23 => ?_)
    refine z_goto (tgt := 51) F dX7_mark_39 (by decide +kernel) ?_
    refine z_iast F hI gs_39 (by omega) (by omega) (by decide) bd_39 dX7_mark_51 (by omega) (by omega) (fun M25 hI sf24 f24 => ?_)
    have hF := hF.wr f24 (by decide) (by decide)
    have hW : WFk M25 := hW.site f24 (by decide)
    exact hret _ 52 _ ⟨hI, hW⟩ hF dX7_mark_52
set_option maxRecDepth 4000 in
theorem k_X7_askLawFor_35 (l : Launch) (M : Mem) (hJ : Iw M) (x0 : Int) (hx0a : 0 ≤ x0) (hx0b : x0 ≤ 7) : CV l yX7_askLawFor cX7_askLawFor 6 none 4 (fun ad => [.ref (ad 35), ii x0]) M (fun M' => Fr [16, 17, 38, 39] M M') := by
  obtain ⟨hI, hW⟩ := hJ
  have hF : Fr [16, 17, 38, 39] M M := Fr.rf
  refine en_v (by decide +kernel) (fun ad => by exact Nat.le_of_ble_eq_true rfl) (fun D cy ad A p e s m args below meth c Q F hret => ?_)
  refine z_eq (ls' := [(0, .ref (ad 35)), (1, ii x0)]) rfl rfl rfl ?_
  refine z_iconst F dX7_askLawFor_0 ?_
  refine z_istore_n F dX7_askLawFor_1 rfl (by decide) (ls' := [(2, ii 0), (0, .ref (ad 35)), (1, ii x0)]) rfl ?_
  refine z_loc [1, 2, 0] (ls' := [(0, .ref (ad 35)), (1, ii x0), (2, ii 0)]) rfl ?_
  suffices key2 : ∀ (n : Nat) (y2 : Int) (M1 : Mem), Inv M1 → WFk M1 → Fr [16, 17, 38, 39] M M1 → 0 ≤ y2 → y2 ≤ 8 → 8 - y2 < (n : Int) → Z D cy ad p l e (RMh 4) s m args below meth c A 6 0 0 Q 2 [(0, .ref (ad 35)), (1, ii x0), (2, ii y2)] [] M1 from key2 9 0 M hI hW hF (by omega) (by omega) (by omega)
  intro n2
  induction n2 with
  | zero => intro y2 M1 hI hW hF ay2 by2 hn2; exfalso; omega
  | succ n2 ih2 =>
    intro y2 M1 hI hW hF ay2 by2 hn2
    refine z_iload_n F dX7_askLawFor_2 rfl (q := 2) rfl ?_
    refine z_aload_n F dX7_askLawFor_3 rfl (q := 0) rfl ?_
    refine rf_X7_24 F gs_35 rfl dX7_askLawFor_4 ?_
    refine gf_X7_28 F hI gs_2 rfl bd_2_3 dX7_askLawFor_7 (fun v3 ev3 av3 bv3 => ?_)
    refine z_icmp_ge (tgt := 138) F dX7_askLawFor_10 (by decide +kernel) (by omega) (by omega) (fun c4 => ?_) (fun c4 => ?_)
    · exact hret _ 138 _ ⟨hI, hW⟩ hF dX7_askLawFor_138
    · refine z_iload_n F dX7_askLawFor_13 rfl (q := 2) rfl ?_
      refine z_iload_n F dX7_askLawFor_14 rfl (q := 1) rfl ?_
      refine z_icmp_eq (tgt := 132) F dX7_askLawFor_15 (by decide +kernel) (by omega) (by omega) (fun c5 => ?_) (fun c5 => ?_)
      · refine z_iincN F dX7_askLawFor_132 (q := 2) rfl (by decide) (fun v6 ev6 => ?_)
        refine z_eq (ls' := [(2, ii v6), (0, .ref (ad 35)), (1, ii x0)]) rfl rfl rfl ?_
        refine z_goto (tgt := 2) F dX7_askLawFor_135 (by decide +kernel) ?_
        refine z_loc [1, 2, 0] (ls' := [(0, .ref (ad 35)), (1, ii x0), (2, ii v6)]) rfl ?_
        exact ih2 v6 M1 hI hW hF (by omega) (by omega) (by omega)
      · refine z_iload_n F dX7_askLawFor_18 rfl (q := 1) rfl ?_
        refine z_iload_n F dX7_askLawFor_19 rfl (q := 2) rfl ?_
        refine z_min F mm_X7_56 (Nat.le_of_ble_eq_true rfl) dX7_askLawFor_20 (by omega) (by omega) (fun v7 ev7 => ?_)
        refine z_istore_n F dX7_askLawFor_23 rfl (by decide) (ls' := [(3, ii v7), (0, .ref (ad 35)), (1, ii x0), (2, ii y2)]) rfl ?_
        refine z_iload_n F dX7_askLawFor_24 rfl (q := 2) rfl ?_
        refine z_iload_n F dX7_askLawFor_25 rfl (q := 3) rfl ?_
        refine z_max F mm_X7_62 (Nat.le_of_ble_eq_true rfl) dX7_askLawFor_26 (by omega) (by omega) (fun v8 ev8 => ?_)
        refine z_istore F dX7_askLawFor_29 (by decide) (ls' := [(4, ii v8), (3, ii v7), (0, .ref (ad 35)), (1, ii x0), (2, ii y2)]) rfl ?_
        refine z_aload_n F dX7_askLawFor_31 rfl (q := 2) rfl ?_
        refine rf_X7_24 F gs_35 rfl dX7_askLawFor_32 ?_
        refine rf_X7_65 F gs_2 rfl dX7_askLawFor_35 ?_
        refine z_iload_n F dX7_askLawFor_38 rfl (q := 1) rfl ?_
        refine z_iald F hI gs_8 (by omega) (by omega) (by decide) bd_8 dX7_askLawFor_39 (fun v9 (ev9 : v9 = M1 8 _) av9 bv9 => ?_)
        refine z_aload_n F dX7_askLawFor_40 rfl (q := 2) rfl ?_
        refine rf_X7_24 F gs_35 rfl dX7_askLawFor_41 ?_
        refine rf_X7_65 F gs_2 rfl dX7_askLawFor_44 ?_
        refine z_iload F dX7_askLawFor_47 (q := 0) rfl ?_
        refine z_iald F hI gs_8 (by omega) (by omega) (by decide) bd_8 dX7_askLawFor_49 (fun v10 (ev10 : v10 = M1 8 _) av10 bv10 => ?_)
        refine z_icmp_ne (tgt := 57) F dX7_askLawFor_50 (by decide +kernel) (by omega) (by omega) (fun c11 => ?_) (fun c11 => ?_)
        · refine z_iconst F dX7_askLawFor_57 ?_
          refine z_istore F dX7_askLawFor_58 (by decide) (ls' := [(5, ii 0), (4, ii v8), (3, ii v7), (0, .ref (ad 35)), (1, ii x0), (2, ii y2)]) rfl ?_
          refine z_aload_n F dX7_askLawFor_60 rfl (q := 3) rfl ?_
          refine rf_X7_18 F gs_35 rfl dX7_askLawFor_61 ?_
          refine z_iload_n F dX7_askLawFor_64 rfl (q := 2) rfl ?_
          refine z_iload F dX7_askLawFor_65 (q := 1) rfl ?_
          refine z_aload_n F dX7_askLawFor_67 rfl (q := 3) rfl ?_
          refine rf_X7_24 F gs_35 rfl dX7_askLawFor_68 ?_
          refine rf_X7_68 F gs_2 rfl dX7_askLawFor_71 ?_
          refine z_aload_n F dX7_askLawFor_74 rfl (q := 3) rfl ?_
          refine rf_X7_15 F gs_35 rfl dX7_askLawFor_75 ?_
          refine z_iload_n F dX7_askLawFor_78 rfl (q := 2) rfl ?_
          refine z_iald F hI gs_37 (by omega) (by omega) (by decide) bd_37 dX7_askLawFor_79 (fun v12 (ev12 : v12 = M1 37 _) av12 bv12 => ?_)
          refine z_aload_n F dX7_askLawFor_80 rfl (q := 3) rfl ?_
          refine rf_X7_15 F gs_35 rfl dX7_askLawFor_81 ?_
          refine z_iload F dX7_askLawFor_84 (q := 1) rfl ?_
          refine z_iald F hI gs_37 (by omega) (by omega) (by decide) bd_37 dX7_askLawFor_86 (fun v13 (ev13 : v13 = M1 37 _) av13 bv13 => ?_)
          refine z_iload F dX7_askLawFor_87 (q := 0) rfl ?_
          refine z_iconst F dX7_askLawFor_89 ?_
          refine zv_i (rest := [ii v8, ii v7, .ref (ad 38)]) F (k_X2_forbids_14 l M1 ⟨hI, hW⟩ v12 (by omega) (by omega) v13 (by omega) (by omega) 0 (by omega) (by omega) 0 (by omega) (by omega)) cs_X7_72 (T := TX2) (N := 5) (ci := 2) rfl gs_14 (by decide) (by decide) rfl rfl rfl (Nat.le_of_ble_eq_true rfl) dX7_askLawFor_90 (fun v14 M15 rv14 hI p16 => ?_)
          obtain ⟨hI, hW⟩ := hI
          obtain ⟨⟨av14, bv14⟩, fp16⟩ := p16
          have hF := hF.call fp16 (by decide)
          refine zs_v (rest := []) F (k_X7_mark_38 l M15 ⟨hI, hW⟩ v7 (by omega) (by omega) v8 (by omega) (by omega) v14 (by omega) (by omega)) cs_X7_78 (by decide) (by decide) rfl rfl rfl (Nat.le_of_ble_eq_true rfl) dX7_askLawFor_93 (fun M17 hI p18 => ?_)
          obtain ⟨hI, hW⟩ := hI
          have fp18 := p18
          have hF := hF.call fp18 (by decide)
          refine z_aload_n F dX7_askLawFor_96 rfl (q := 3) rfl ?_
          refine rf_X7_21 F gs_35 rfl dX7_askLawFor_97 ?_
          refine z_iload_n F dX7_askLawFor_100 rfl (q := 2) rfl ?_
          refine z_iload F dX7_askLawFor_101 (q := 1) rfl ?_
          refine z_aload_n F dX7_askLawFor_103 rfl (q := 3) rfl ?_
          refine rf_X7_24 F gs_35 rfl dX7_askLawFor_104 ?_
          refine rf_X7_68 F gs_2 rfl dX7_askLawFor_107 ?_
          refine z_aload_n F dX7_askLawFor_110 rfl (q := 3) rfl ?_
          refine rf_X7_15 F gs_35 rfl dX7_askLawFor_111 ?_
          refine z_iload_n F dX7_askLawFor_114 rfl (q := 2) rfl ?_
          refine z_iald F hI gs_37 (by omega) (by omega) (by decide) bd_37 dX7_askLawFor_115 (fun v19 (ev19 : v19 = M17 37 _) av19 bv19 => ?_)
          have q20 : v12 = M15 37 (v7).toNat := ev12.trans ((fp16.at (by decide)) : M15 37 (v7).toNat = _).symm
          have q21 : v12 = M17 37 (v7).toNat := q20.trans ((fp18.at (by decide)) : M17 37 (v7).toNat = _).symm
          have zv19 : v12 = v19 := q21.trans ev19.symm
          subst zv19
          refine z_aload_n F dX7_askLawFor_116 rfl (q := 3) rfl ?_
          refine rf_X7_15 F gs_35 rfl dX7_askLawFor_117 ?_
          refine z_iload F dX7_askLawFor_120 (q := 1) rfl ?_
          refine z_iald F hI gs_37 (by omega) (by omega) (by decide) bd_37 dX7_askLawFor_122 (fun v22 (ev22 : v22 = M17 37 _) av22 bv22 => ?_)
          have q23 : v13 = M15 37 (v8).toNat := ev13.trans ((fp16.at (by decide)) : M15 37 (v8).toNat = _).symm
          have q24 : v13 = M17 37 (v8).toNat := q23.trans ((fp18.at (by decide)) : M17 37 (v8).toNat = _).symm
          have zv22 : v13 = v22 := q24.trans ev22.symm
          subst zv22
          refine z_iload F dX7_askLawFor_123 (q := 0) rfl ?_
          refine z_iconst F dX7_askLawFor_125 ?_
          refine zv_i (rest := [ii v8, ii v7, .ref (ad 39)]) F (k_X2_forbids_14 l M17 ⟨hI, hW⟩ v12 (by omega) (by omega) v13 (by omega) (by omega) 0 (by omega) (by omega) 1 (by omega) (by omega)) cs_X7_72 (T := TX2) (N := 5) (ci := 2) rfl gs_14 (by decide) (by decide) rfl rfl rfl (Nat.le_of_ble_eq_true rfl) dX7_askLawFor_126 (fun v25 M26 rv25 hI p27 => ?_)
          obtain ⟨hI, hW⟩ := hI
          obtain ⟨⟨av25, bv25⟩, fp27⟩ := p27
          have hF := hF.call fp27 (by decide)
          refine zs_v (rest := []) F (k_X7_mark_39 l M26 ⟨hI, hW⟩ v7 (by omega) (by omega) v8 (by omega) (by omega) v25 (by omega) (by omega)) cs_X7_78 (by decide) (by decide) rfl rfl rfl (Nat.le_of_ble_eq_true rfl) dX7_askLawFor_129 (fun M28 hI p29 => ?_)
          obtain ⟨hI, hW⟩ := hI
          have fp29 := p29
          have hF := hF.call fp29 (by decide)
          refine z_iincN F dX7_askLawFor_132 (q := 5) rfl (by decide) (fun v30 ev30 => ?_)
          refine z_eq (ls' := [(2, ii v30), (5, ii 0), (4, ii v8), (3, ii v7), (0, .ref (ad 35)), (1, ii x0)]) rfl rfl rfl ?_
          refine z_goto (tgt := 2) F dX7_askLawFor_135 (by decide +kernel) ?_
          refine z_loc [4, 5, 0] (ls' := [(0, .ref (ad 35)), (1, ii x0), (2, ii v30)]) rfl ?_
          exact ih2 v30 M28 hI hW hF (by omega) (by omega) (by omega)
        · refine z_iconst F dX7_askLawFor_53 ?_
          refine z_goto (tgt := 58) F dX7_askLawFor_54 (by decide +kernel) ?_
          refine z_istore F dX7_askLawFor_58 (by decide) (ls' := [(5, ii 1), (4, ii v8), (3, ii v7), (0, .ref (ad 35)), (1, ii x0), (2, ii y2)]) rfl ?_
          refine z_aload_n F dX7_askLawFor_60 rfl (q := 3) rfl ?_
          refine rf_X7_18 F gs_35 rfl dX7_askLawFor_61 ?_
          refine z_iload_n F dX7_askLawFor_64 rfl (q := 2) rfl ?_
          refine z_iload F dX7_askLawFor_65 (q := 1) rfl ?_
          refine z_aload_n F dX7_askLawFor_67 rfl (q := 3) rfl ?_
          refine rf_X7_24 F gs_35 rfl dX7_askLawFor_68 ?_
          refine rf_X7_68 F gs_2 rfl dX7_askLawFor_71 ?_
          refine z_aload_n F dX7_askLawFor_74 rfl (q := 3) rfl ?_
          refine rf_X7_15 F gs_35 rfl dX7_askLawFor_75 ?_
          refine z_iload_n F dX7_askLawFor_78 rfl (q := 2) rfl ?_
          refine z_iald F hI gs_37 (by omega) (by omega) (by decide) bd_37 dX7_askLawFor_79 (fun v31 (ev31 : v31 = M1 37 _) av31 bv31 => ?_)
          refine z_aload_n F dX7_askLawFor_80 rfl (q := 3) rfl ?_
          refine rf_X7_15 F gs_35 rfl dX7_askLawFor_81 ?_
          refine z_iload F dX7_askLawFor_84 (q := 1) rfl ?_
          refine z_iald F hI gs_37 (by omega) (by omega) (by decide) bd_37 dX7_askLawFor_86 (fun v32 (ev32 : v32 = M1 37 _) av32 bv32 => ?_)
          refine z_iload F dX7_askLawFor_87 (q := 0) rfl ?_
          refine z_iconst F dX7_askLawFor_89 ?_
          refine zv_i (rest := [ii v8, ii v7, .ref (ad 38)]) F (k_X2_forbids_14 l M1 ⟨hI, hW⟩ v31 (by omega) (by omega) v32 (by omega) (by omega) 1 (by omega) (by omega) 0 (by omega) (by omega)) cs_X7_72 (T := TX2) (N := 5) (ci := 2) rfl gs_14 (by decide) (by decide) rfl rfl rfl (Nat.le_of_ble_eq_true rfl) dX7_askLawFor_90 (fun v33 M34 rv33 hI p35 => ?_)
          obtain ⟨hI, hW⟩ := hI
          obtain ⟨⟨av33, bv33⟩, fp35⟩ := p35
          have hF := hF.call fp35 (by decide)
          refine zs_v (rest := []) F (k_X7_mark_38 l M34 ⟨hI, hW⟩ v7 (by omega) (by omega) v8 (by omega) (by omega) v33 (by omega) (by omega)) cs_X7_78 (by decide) (by decide) rfl rfl rfl (Nat.le_of_ble_eq_true rfl) dX7_askLawFor_93 (fun M36 hI p37 => ?_)
          obtain ⟨hI, hW⟩ := hI
          have fp37 := p37
          have hF := hF.call fp37 (by decide)
          refine z_aload_n F dX7_askLawFor_96 rfl (q := 3) rfl ?_
          refine rf_X7_21 F gs_35 rfl dX7_askLawFor_97 ?_
          refine z_iload_n F dX7_askLawFor_100 rfl (q := 2) rfl ?_
          refine z_iload F dX7_askLawFor_101 (q := 1) rfl ?_
          refine z_aload_n F dX7_askLawFor_103 rfl (q := 3) rfl ?_
          refine rf_X7_24 F gs_35 rfl dX7_askLawFor_104 ?_
          refine rf_X7_68 F gs_2 rfl dX7_askLawFor_107 ?_
          refine z_aload_n F dX7_askLawFor_110 rfl (q := 3) rfl ?_
          refine rf_X7_15 F gs_35 rfl dX7_askLawFor_111 ?_
          refine z_iload_n F dX7_askLawFor_114 rfl (q := 2) rfl ?_
          refine z_iald F hI gs_37 (by omega) (by omega) (by decide) bd_37 dX7_askLawFor_115 (fun v38 (ev38 : v38 = M36 37 _) av38 bv38 => ?_)
          have q39 : v31 = M34 37 (v7).toNat := ev31.trans ((fp35.at (by decide)) : M34 37 (v7).toNat = _).symm
          have q40 : v31 = M36 37 (v7).toNat := q39.trans ((fp37.at (by decide)) : M36 37 (v7).toNat = _).symm
          have zv38 : v31 = v38 := q40.trans ev38.symm
          subst zv38
          refine z_aload_n F dX7_askLawFor_116 rfl (q := 3) rfl ?_
          refine rf_X7_15 F gs_35 rfl dX7_askLawFor_117 ?_
          refine z_iload F dX7_askLawFor_120 (q := 1) rfl ?_
          refine z_iald F hI gs_37 (by omega) (by omega) (by decide) bd_37 dX7_askLawFor_122 (fun v41 (ev41 : v41 = M36 37 _) av41 bv41 => ?_)
          have q42 : v32 = M34 37 (v8).toNat := ev32.trans ((fp35.at (by decide)) : M34 37 (v8).toNat = _).symm
          have q43 : v32 = M36 37 (v8).toNat := q42.trans ((fp37.at (by decide)) : M36 37 (v8).toNat = _).symm
          have zv41 : v32 = v41 := q43.trans ev41.symm
          subst zv41
          refine z_iload F dX7_askLawFor_123 (q := 0) rfl ?_
          refine z_iconst F dX7_askLawFor_125 ?_
          refine zv_i (rest := [ii v8, ii v7, .ref (ad 39)]) F (k_X2_forbids_14 l M36 ⟨hI, hW⟩ v31 (by omega) (by omega) v32 (by omega) (by omega) 1 (by omega) (by omega) 1 (by omega) (by omega)) cs_X7_72 (T := TX2) (N := 5) (ci := 2) rfl gs_14 (by decide) (by decide) rfl rfl rfl (Nat.le_of_ble_eq_true rfl) dX7_askLawFor_126 (fun v44 M45 rv44 hI p46 => ?_)
          obtain ⟨hI, hW⟩ := hI
          obtain ⟨⟨av44, bv44⟩, fp46⟩ := p46
          have hF := hF.call fp46 (by decide)
          refine zs_v (rest := []) F (k_X7_mark_39 l M45 ⟨hI, hW⟩ v7 (by omega) (by omega) v8 (by omega) (by omega) v44 (by omega) (by omega)) cs_X7_78 (by decide) (by decide) rfl rfl rfl (Nat.le_of_ble_eq_true rfl) dX7_askLawFor_129 (fun M47 hI p48 => ?_)
          obtain ⟨hI, hW⟩ := hI
          have fp48 := p48
          have hF := hF.call fp48 (by decide)
          refine z_iincN F dX7_askLawFor_132 (q := 5) rfl (by decide) (fun v49 ev49 => ?_)
          refine z_eq (ls' := [(2, ii v49), (5, ii 1), (4, ii v8), (3, ii v7), (0, .ref (ad 35)), (1, ii x0)]) rfl rfl rfl ?_
          refine z_goto (tgt := 2) F dX7_askLawFor_135 (by decide +kernel) ?_
          refine z_loc [4, 5, 0] (ls' := [(0, .ref (ad 35)), (1, ii x0), (2, ii v49)]) rfl ?_
          exact ih2 v49 M47 hI hW hF (by omega) (by omega) (by omega)
set_option maxRecDepth 4000 in
theorem k_X7_addTo_35 (l : Launch) (M : Mem) (hJ : Iw M) (x0 : Int) (hx0a : 0 ≤ x0) (hx0b : x0 ≤ 7) (x1 : Int) (hx1a : (-2147483648) ≤ x1) (hx1b : x1 ≤ 2147483647) : CV l yX7_addTo cX7_addTo 3 none 5 (fun ad => [.ref (ad 35), ii x0, ii x1]) M (fun M' => Fr [16, 17, 37, 38, 39] M M') := by
  obtain ⟨hI, hW⟩ := hJ
  have hF : Fr [16, 17, 37, 38, 39] M M := Fr.rf
  refine en_v (by decide +kernel) (fun ad => by exact Nat.le_of_ble_eq_true rfl) (fun D cy ad A p e s m args below meth c Q F hret => ?_)
  refine z_eq (ls' := [(0, .ref (ad 35)), (1, ii x0), (2, ii x1)]) rfl rfl rfl ?_
  refine z_aload_n F dX7_addTo_0 rfl (q := 0) rfl ?_
  refine rf_X7_15 F gs_35 rfl dX7_addTo_1 ?_
  refine z_iload_n F dX7_addTo_4 rfl (q := 1) rfl ?_
  refine z_aload_n F dX7_addTo_5 rfl (q := 0) rfl ?_
  refine rf_X7_15 F gs_35 rfl dX7_addTo_6 ?_
  refine z_iload_n F dX7_addTo_9 rfl (q := 1) rfl ?_
  refine z_iald F hI gs_37 (by omega) (by omega) (by decide) bd_37 dX7_addTo_10 (fun v1 (ev1 : v1 = M 37 _) av1 bv1 => ?_)
  refine z_iload_n F dX7_addTo_11 rfl (q := 2) rfl ?_
  refine z_iadd F dX7_addTo_12 ?_
  refine z_wrap (fun v2 rv2 wv2 => ?_)
  refine z_iconst F dX7_addTo_13 ?_
  refine z_bipush F dX7_addTo_14 (by decide +kernel) ?_
  refine zn_i (rest := [ii x0, .ref (ad 37)]) F (k_X11_keptWithin l M ⟨hI, hW⟩ v2 (by omega) (by omega) 0 (by omega) (by omega) 99 (by omega) (by omega)) cs_X7_134 (by decide) (by decide) rfl rfl rfl (Nat.le_of_ble_eq_true rfl) dX7_addTo_16 (fun v3 M4 rv3 hI p5 => ?_)
  obtain ⟨hI, hW⟩ := hI
  obtain ⟨⟨av3, bv3⟩, rfl, xp5⟩ := p5
  have hkv3 : 0 ≤ v3 ∧ v3 ≤ 99 := by omega
  refine z_iast F hI gs_37 (by omega) (by omega) (by decide) bd_37 dX7_addTo_19 (by omega) (by omega) (fun M7 hI sf6 f6 => ?_)
  have hF := hF.wr f6 (by decide) (by decide)
  have hW : WFk M7 := hW.site f6 (by decide)
  refine z_aload_n F dX7_addTo_20 rfl (q := 0) rfl ?_
  refine z_iload_n F dX7_addTo_21 rfl (q := 1) rfl ?_
  refine zv_v (rest := []) F (k_X7_askLawFor_35 l M7 ⟨hI, hW⟩ x0 (by omega) (by omega)) cs_X7_40 (T := TX7) (N := 7) (ci := 7) rfl gs_35 (by decide) (by decide) rfl rfl rfl (Nat.le_of_ble_eq_true rfl) dX7_addTo_22 (fun M8 hI p9 => ?_)
  obtain ⟨hI, hW⟩ := hI
  have fp9 := p9
  have hF := hF.call fp9 (by decide)
  exact hret _ 25 _ ⟨hI, hW⟩ hF dX7_addTo_25
set_option maxRecDepth 4000 in
theorem k_X11_change (l : Launch) (hlT : l.stackTraces = false) (M : Mem) (hJ : Iw M) (x0 : Int) (hx0a : (-2147483648) ≤ x0) (hx0b : x0 ≤ 2147483647) (x1 : Int) (hx1a : (-2147483648) ≤ x1) (hx1b : x1 ≤ 2147483647) : CIX l yX11_change cX11_change 3 (some .int) 6 2 (fun ad => [.ref (ad 0), ii x0, ii x1]) M (fun z M' => ((-2147483648) ≤ z ∧ z ≤ 2147483647) ∧ Fr [16, 17, 37, 38, 39, 40, 41] M M') (fun E M' => (E = "java/lang/IllegalArgumentException" ∧ True ∧ Fr [16, 17, 37, 38, 39, 40, 41] M M') ∨ (E = "java/util/NoSuchElementException" ∧ True ∧ Fr [16, 17, 37, 38, 39, 40, 41] M M')) := by
  obtain ⟨hI, hW⟩ := hJ
  have hF : Fr [16, 17, 37, 38, 39, 40, 41] M M := Fr.rf
  refine enx_i (by decide +kernel) (fun ad => by exact Nat.le_of_ble_eq_true rfl) (fun D cy ad A p e s m args below meth c Q F hQ hr hlk hex => ?_)
  refine z_eq (ls' := [(0, .ref (ad 0)), (1, ii x0), (2, ii x1)]) rfl rfl rfl ?_
  refine z_aload_n F dX11_change_0 rfl (q := 0) rfl ?_
  refine z_iload_n F dX11_change_1 rfl (q := 1) rfl ?_
  refine zy_v (rest := []) F (k_X11_needThing l hlT M ⟨hI, hW⟩ x0 (by omega) (by omega)) cs_X11_132 (T := TX11) (N := 14) (ci := 11) rfl gs_0 (by decide) (by decide) ⟨by decide, by decide⟩ rfl rfl rfl (Nat.le_of_ble_eq_true rfl) dX11_change_2 (fun E M9 hJ9 hx => by obtain ⟨h9, g9, rfl⟩ := hx <;> first | (exact zx_out hQ hlk hex ⟨by decide, by decide⟩ hJ9 (Or.inr (⟨h9, trivial, hF⟩)))) (fun M1 hI p2 => ?_)
  obtain ⟨hI, hW⟩ := hI
  obtain ⟨rfl, xp2⟩ := p2
  refine z_iload_n F dX11_change_5 rfl (q := 2) rfl ?_
  refine z_bipush F dX11_change_6 (by decide +kernel) ?_
  refine z_icmp_lt (tgt := 17) F dX11_change_8 (by decide +kernel) (by omega) (by omega) (fun c3 => ?_) (fun c3 => ?_)
  · exact z_thrS (cls := "java/lang/IllegalArgumentException") (names := ["java/lang/RuntimeException", "java/lang/Exception"]) (j := 34) F hlT hQ hlk hex (by decide +kernel) (by decide +kernel) (by decide) (gin lm_360 rfl) (gin lm_361 rfl) at_X11_105 bad_X11_105 (by decide +kernel) ot_X11_105 rfl rfl rfl dX11_change_17 dX11_change_20 dX11_change_21 dX11_change_23 dX11_change_26 ⟨by decide, by decide⟩ (Nat.le_of_ble_eq_true rfl) ⟨hI, hW⟩ (Or.inl ⟨rfl, trivial, hF⟩)
  · refine z_iload_n F dX11_change_11 rfl (q := 2) rfl ?_
    refine z_bipush F dX11_change_12 (by decide +kernel) ?_
    refine z_icmp_le (tgt := 27) F dX11_change_14 (by decide +kernel) (by omega) (by omega) (fun c4 => ?_) (fun c4 => ?_)
    · refine z_aload_n F dX11_change_27 rfl (q := 0) rfl ?_
      refine rf_X11_41 F gs_0 rfl dX11_change_28 ?_
      refine z_aload_n F dX11_change_31 rfl (q := 0) rfl ?_
      refine rf_X11_34 F gs_0 rfl dX11_change_32 ?_
      refine zw_v (rest := []) F (k_X4_keep_40_35 l M ⟨hI, hW⟩) cs_X11_217 (T := TX4) (N := 3) (ci := 4) rfl gs_40 (by decide) (by decide) ⟨by decide, by decide⟩ rfl rfl rfl (Nat.le_of_ble_eq_true rfl) dX11_change_35 (fun M5 hI p6 => ?_)
      obtain ⟨hI, hW⟩ := hI
      have fp6 := p6
      have hF := hF.call fp6 (by decide)
      refine z_aload_n F dX11_change_38 rfl (q := 0) rfl ?_
      refine rf_X11_34 F gs_0 rfl dX11_change_39 ?_
      refine z_iload_n F dX11_change_42 rfl (q := 1) rfl ?_
      refine z_iload_n F dX11_change_43 rfl (q := 2) rfl ?_
      refine zw_v (rest := []) F (k_X7_addTo_35 l M5 ⟨hI, hW⟩ x0 (by omega) (by omega) x1 (by omega) (by omega)) cs_X11_221 (T := TX7) (N := 7) (ci := 7) rfl gs_35 (by decide) (by decide) ⟨by decide, by decide⟩ rfl rfl rfl (Nat.le_of_ble_eq_true rfl) dX11_change_44 (fun M7 hI p8 => ?_)
      obtain ⟨hI, hW⟩ := hI
      have fp8 := p8
      have hF := hF.call fp8 (by decide)
      refine z_aload_n F dX11_change_47 rfl (q := 0) rfl ?_
      refine rf_X11_34 F gs_0 rfl dX11_change_48 ?_
      refine rf_X11_138 F gs_35 rfl dX11_change_51 ?_
      refine z_iload_n F dX11_change_54 rfl (q := 1) rfl ?_
      refine z_iald F hI gs_37 (by omega) (by omega) (by decide) bd_37 dX11_change_55 (fun v9 (ev9 : v9 = M7 37 _) av9 bv9 => ?_)
      exact zxr_i F hQ hr hlk dX11_change_56 ⟨by decide, by decide⟩ (by omega) ⟨hI, hW⟩ ⟨⟨by omega, by omega⟩, hF⟩
    · exact z_thrS (cls := "java/lang/IllegalArgumentException") (names := ["java/lang/RuntimeException", "java/lang/Exception"]) (j := 34) F hlT hQ hlk hex (by decide +kernel) (by decide +kernel) (by decide) (gin lm_360 rfl) (gin lm_361 rfl) at_X11_105 bad_X11_105 (by decide +kernel) ot_X11_105 rfl rfl rfl dX11_change_17 dX11_change_20 dX11_change_21 dX11_change_23 dX11_change_26 ⟨by decide, by decide⟩ (Nat.le_of_ble_eq_true rfl) ⟨hI, hW⟩ (Or.inl ⟨rfl, trivial, hF⟩)
set_option maxRecDepth 4000 in
theorem k_X7_obstacle_35 (l : Launch) (M : Mem) (hJ : Iw M) (x0 : Int) (hx0a : (-2147483648) ≤ x0) (hx0b : x0 ≤ 2147483647) (x1 : Int) (hx1a : (-2147483648) ≤ x1) (hx1b : x1 ≤ 2147483647) : CI l yX7_obstacle cX7_obstacle 3 (some .int) 3 (fun ad => [.ref (ad 35), ii x0, ii x1]) M (fun z M' => (0 ≤ z ∧ z ≤ 4) ∧ M = M' ∧ (z = 0 → 0 ≤ x0 ∧ x0 ≤ 7 ∧ 0 ≤ x1 ∧ x1 ≤ 9)) := by
  obtain ⟨hI, hW⟩ := hJ
  refine en_i (by decide +kernel) (fun ad => by exact Nat.le_of_ble_eq_true rfl) (fun D cy ad A p e s m args below meth c Q F hret => ?_)
  refine z_eq (ls' := [(0, .ref (ad 35)), (1, ii x0), (2, ii x1)]) rfl rfl rfl ?_
  refine z_aload_n F dX7_obstacle_0 rfl (q := 0) rfl ?_
  refine rf_X7_24 F gs_35 rfl dX7_obstacle_1 ?_
  refine z_iload_n F dX7_obstacle_4 rfl (q := 1) rfl ?_
  refine zv_i (rest := []) F (k_X9_hasThing_2 l M ⟨hI, hW⟩ x0 (by omega) (by omega)) cs_X7_104 (T := TX9) (N := 18) (ci := 9) rfl gs_2 (by decide) (by decide) rfl rfl rfl (Nat.le_of_ble_eq_true rfl) dX7_obstacle_5 (fun v1 M2 rv1 hI p3 => ?_)
  obtain ⟨hI, hW⟩ := hI
  obtain ⟨⟨av1, bv1⟩, rfl, xp3⟩ := p3
  refine z_if_eq (tgt := 22) F dX7_obstacle_8 (by decide +kernel) (by omega) (fun c4 => ?_) (fun c4 => ?_)
  · refine z_iconst F dX7_obstacle_22 ?_
    exact hret _ _ 23 _ (by omega) ⟨hI, hW⟩ ⟨⟨by omega, by omega⟩, rfl, (by omega)⟩ dX7_obstacle_23
  · refine z_aload_n F dX7_obstacle_11 rfl (q := 0) rfl ?_
    refine rf_X7_24 F gs_35 rfl dX7_obstacle_12 ?_
    refine z_iload_n F dX7_obstacle_15 rfl (q := 2) rfl ?_
    refine zv_i (rest := []) F (k_X9_hasPlace_2 l M ⟨hI, hW⟩ x1 (by omega) (by omega)) cs_X7_108 (T := TX9) (N := 18) (ci := 9) rfl gs_2 (by decide) (by decide) rfl rfl rfl (Nat.le_of_ble_eq_true rfl) dX7_obstacle_16 (fun v5 M6 rv5 hI p7 => ?_)
    obtain ⟨hI, hW⟩ := hI
    obtain ⟨⟨av5, bv5⟩, rfl, xp7⟩ := p7
    refine z_if_ne (tgt := 24) F dX7_obstacle_19 (by decide +kernel) (by omega) (fun c8 => ?_) (fun c8 => ?_)
    · refine z_aload_n F dX7_obstacle_24 rfl (q := 0) rfl ?_
      refine rf_X7_24 F gs_35 rfl dX7_obstacle_25 ?_
      refine z_iload_n F dX7_obstacle_28 rfl (q := 1) rfl ?_
      refine zv_i (rest := []) F (k_X9_isFixed_2 l M ⟨hI, hW⟩ x0 (by omega) (by omega)) cs_X7_111 (T := TX9) (N := 18) (ci := 9) rfl gs_2 (by decide) (by decide) rfl rfl rfl (Nat.le_of_ble_eq_true rfl) dX7_obstacle_29 (fun v9 M10 rv9 hI p11 => ?_)
      obtain ⟨hI, hW⟩ := hI
      obtain ⟨⟨av9, bv9⟩, rfl⟩ := p11
      refine z_if_eq (tgt := 37) F dX7_obstacle_32 (by decide +kernel) (by omega) (fun c12 => ?_) (fun c12 => ?_)
      · refine z_aload_n F dX7_obstacle_37 rfl (q := 0) rfl ?_
        refine z_iload_n F dX7_obstacle_38 rfl (q := 2) rfl ?_
        refine zv_i (rest := []) F (k_X7_whoIsAt_35 l M ⟨hI, hW⟩ x1 (by omega) (by omega)) cs_X7_114 (T := TX7) (N := 7) (ci := 7) rfl gs_35 (by decide) (by decide) rfl rfl rfl (Nat.le_of_ble_eq_true rfl) dX7_obstacle_39 (fun v13 M14 rv13 hI p15 => ?_)
        obtain ⟨hI, hW⟩ := hI
        obtain ⟨⟨av13, bv13⟩, rfl⟩ := p15
        refine z_iconst F dX7_obstacle_42 ?_
        refine z_icmp_eq (tgt := 48) F dX7_obstacle_43 (by decide +kernel) (by omega) (by omega) (fun c16 => ?_) (fun c16 => ?_)
        · refine z_aload_n F dX7_obstacle_48 rfl (q := 0) rfl ?_
          refine rf_X7_24 F gs_35 rfl dX7_obstacle_49 ?_
          refine z_aload_n F dX7_obstacle_52 rfl (q := 0) rfl ?_
          refine rf_X7_9 F gs_35 rfl dX7_obstacle_53 ?_
          refine z_iload_n F dX7_obstacle_56 rfl (q := 1) rfl ?_
          refine z_iald F hI gs_36 (by omega) (by omega) (by decide) bd_36 dX7_obstacle_57 (fun v17 (ev17 : v17 = M 36 _) av17 bv17 => ?_)
          refine z_iload_n F dX7_obstacle_58 rfl (q := 2) rfl ?_
          refine zv_i (rest := []) F (k_X9_stepsBetween_2 l M ⟨hI, hW⟩ v17 (by omega) (by omega) x1 (by omega) (by omega)) cs_X7_117 (T := TX9) (N := 18) (ci := 9) rfl gs_2 (by decide) (by decide) rfl rfl rfl (Nat.le_of_ble_eq_true rfl) dX7_obstacle_59 (fun v18 M19 rv18 hI p20 => ?_)
          obtain ⟨hI, hW⟩ := hI
          obtain ⟨⟨av18, bv18⟩, rfl⟩ := p20
          refine z_iconst F dX7_obstacle_62 ?_
          refine z_icmp_ne (tgt := 70) F dX7_obstacle_63 (by decide +kernel) (by omega) (by omega) (fun c21 => ?_) (fun c21 => ?_)
          · refine z_iconst F dX7_obstacle_70 ?_
            exact hret _ _ 71 _ (by omega) ⟨hI, hW⟩ ⟨⟨by omega, by omega⟩, rfl, (by omega)⟩ dX7_obstacle_71
          · refine z_iconst F dX7_obstacle_66 ?_
            refine z_goto (tgt := 71) F dX7_obstacle_67 (by decide +kernel) ?_
            exact hret _ _ 71 _ (by omega) ⟨hI, hW⟩ ⟨⟨by omega, by omega⟩, rfl, (by omega)⟩ dX7_obstacle_71
        · refine z_iconst F dX7_obstacle_46 ?_
          exact hret _ _ 47 _ (by omega) ⟨hI, hW⟩ ⟨⟨by omega, by omega⟩, rfl, (by omega)⟩ dX7_obstacle_47
      · refine z_iconst F dX7_obstacle_35 ?_
        exact hret _ _ 36 _ (by omega) ⟨hI, hW⟩ ⟨⟨by omega, by omega⟩, rfl, (by omega)⟩ dX7_obstacle_36
    · refine z_iconst F dX7_obstacle_22 ?_
      exact hret _ _ 23 _ (by omega) ⟨hI, hW⟩ ⟨⟨by omega, by omega⟩, rfl, (by omega)⟩ dX7_obstacle_23
set_option maxRecDepth 4000 in
theorem k_X11_why (l : Launch) (M : Mem) (hJ : Iw M) (x0 : Int) (hx0a : (-2147483648) ≤ x0) (hx0b : x0 ≤ 2147483647) (x1 : Int) (hx1a : (-2147483648) ≤ x1) (hx1b : x1 ≤ 2147483647) : CI l yX11_why cX11_why 3 (some .int) 4 (fun ad => [.ref (ad 0), ii x0, ii x1]) M (fun z M' => (0 ≤ z ∧ z ≤ 4) ∧ M = M') := by
  obtain ⟨hI, hW⟩ := hJ
  refine en_i (by decide +kernel) (fun ad => by exact Nat.le_of_ble_eq_true rfl) (fun D cy ad A p e s m args below meth c Q F hret => ?_)
  refine z_eq (ls' := [(0, .ref (ad 0)), (1, ii x0), (2, ii x1)]) rfl rfl rfl ?_
  refine z_aload_n F dX11_why_0 rfl (q := 0) rfl ?_
  refine rf_X11_34 F gs_0 rfl dX11_why_1 ?_
  refine z_iload_n F dX11_why_4 rfl (q := 1) rfl ?_
  refine z_iload_n F dX11_why_5 rfl (q := 2) rfl ?_
  refine zv_i (rest := []) F (k_X7_obstacle_35 l M ⟨hI, hW⟩ x0 (by omega) (by omega) x1 (by omega) (by omega)) cs_X11_225 (T := TX7) (N := 7) (ci := 7) rfl gs_35 (by decide) (by decide) rfl rfl rfl (Nat.le_of_ble_eq_true rfl) dX11_why_6 (fun v1 M2 rv1 hI p3 => ?_)
  obtain ⟨hI, hW⟩ := hI
  obtain ⟨⟨av1, bv1⟩, rfl, xp3⟩ := p3
  exact hret _ _ 9 _ (by omega) ⟨hI, hW⟩ ⟨⟨by omega, by omega⟩, rfl⟩ dX11_why_9
set_option maxRecDepth 4000 in
theorem k_X9_minutesBetween_2 (l : Launch) (M : Mem) (hJ : Iw M) (x0 : Int) (hx0a : 0 ≤ x0) (hx0b : x0 ≤ 7) (x1 : Int) (hx1a : 0 ≤ x1) (hx1b : x1 ≤ 9) (x2 : Int) (hx2a : 0 ≤ x2) (hx2b : x2 ≤ 9) : CI l yX9_minutesBetween cX9_minutesBetween 4 (some .int) 2 (fun ad => [.ref (ad 2), ii x0, ii x1, ii x2]) M (fun z M' => ((-2147483648) ≤ z ∧ z ≤ 2147483647) ∧ M = M') := by
  obtain ⟨hI, hW⟩ := hJ
  refine en_i (by decide +kernel) (fun ad => by exact Nat.le_of_ble_eq_true rfl) (fun D cy ad A p e s m args below meth c Q F hret => ?_)
  refine z_eq (ls' := [(0, .ref (ad 2)), (1, ii x0), (2, ii x1), (3, ii x2)]) rfl rfl rfl ?_
  refine z_aload_n F dX9_minutesBetween_0 rfl (q := 0) rfl ?_
  refine z_iload_n F dX9_minutesBetween_1 rfl (q := 2) rfl ?_
  refine z_iload_n F dX9_minutesBetween_2 rfl (q := 3) rfl ?_
  refine zv_i (rest := []) F (k_X9_stepsBetween_2 l M ⟨hI, hW⟩ x1 (by omega) (by omega) x2 (by omega) (by omega)) cs_X9_109 (T := TX9) (N := 18) (ci := 9) rfl gs_2 (by decide) (by decide) rfl rfl rfl (Nat.le_of_ble_eq_true rfl) dX9_minutesBetween_3 (fun v1 M2 rv1 hI p3 => ?_)
  obtain ⟨hI, hW⟩ := hI
  obtain ⟨⟨av1, bv1⟩, rfl⟩ := p3
  refine z_aload_n F dX9_minutesBetween_6 rfl (q := 0) rfl ?_
  refine rf_X9_30 F gs_2 rfl dX9_minutesBetween_7 ?_
  refine z_iload_n F dX9_minutesBetween_10 rfl (q := 1) rfl ?_
  refine z_iald F hI gs_9 (by omega) (by omega) (by decide) bd_9 dX9_minutesBetween_11 (fun v4 (ev4 : v4 = M 9 _) av4 bv4 => ?_)
  refine z_imul F dX9_minutesBetween_12 ?_
  refine z_wrap (fun v5 rv5 _ => ?_)
  exact hret _ _ 13 _ (by omega) ⟨hI, hW⟩ ⟨⟨by omega, by omega⟩, rfl⟩ dX9_minutesBetween_13
set_option maxRecDepth 4000 in
theorem k_X7_minutesTo_35 (l : Launch) (M : Mem) (hJ : Iw M) (x0 : Int) (hx0a : 0 ≤ x0) (hx0b : x0 ≤ 7) (x1 : Int) (hx1a : 0 ≤ x1) (hx1b : x1 ≤ 9) : CI l yX7_minutesTo cX7_minutesTo 3 (some .int) 3 (fun ad => [.ref (ad 35), ii x0, ii x1]) M (fun z M' => ((-2147483648) ≤ z ∧ z ≤ 2147483647) ∧ M = M') := by
  obtain ⟨hI, hW⟩ := hJ
  refine en_i (by decide +kernel) (fun ad => by exact Nat.le_of_ble_eq_true rfl) (fun D cy ad A p e s m args below meth c Q F hret => ?_)
  refine z_eq (ls' := [(0, .ref (ad 35)), (1, ii x0), (2, ii x1)]) rfl rfl rfl ?_
  refine z_aload_n F dX7_minutesTo_0 rfl (q := 0) rfl ?_
  refine rf_X7_24 F gs_35 rfl dX7_minutesTo_1 ?_
  refine z_iload_n F dX7_minutesTo_4 rfl (q := 1) rfl ?_
  refine z_aload_n F dX7_minutesTo_5 rfl (q := 0) rfl ?_
  refine rf_X7_9 F gs_35 rfl dX7_minutesTo_6 ?_
  refine z_iload_n F dX7_minutesTo_9 rfl (q := 1) rfl ?_
  refine z_iald F hI gs_36 (by omega) (by omega) (by decide) bd_36 dX7_minutesTo_10 (fun v1 (ev1 : v1 = M 36 _) av1 bv1 => ?_)
  refine z_iload_n F dX7_minutesTo_11 rfl (q := 2) rfl ?_
  refine zv_i (rest := []) F (k_X9_minutesBetween_2 l M ⟨hI, hW⟩ x0 (by omega) (by omega) v1 (by omega) (by omega) x1 (by omega) (by omega)) cs_X7_120 (T := TX9) (N := 18) (ci := 9) rfl gs_2 (by decide) (by decide) rfl rfl rfl (Nat.le_of_ble_eq_true rfl) dX7_minutesTo_12 (fun v2 M3 rv2 hI p4 => ?_)
  obtain ⟨hI, hW⟩ := hI
  obtain ⟨⟨av2, bv2⟩, rfl⟩ := p4
  exact hret _ _ 15 _ (by omega) ⟨hI, hW⟩ ⟨⟨by omega, by omega⟩, rfl⟩ dX7_minutesTo_15
set_option maxRecDepth 4000 in
theorem k_X7_passTime_35 (l : Launch) (M : Mem) (hJ : Iw M) (x0 : Int) (hx0a : (-2147483648) ≤ x0) (hx0b : x0 ≤ 2147483647) : CV l yX7_passTime cX7_passTime 2 none 4 (fun ad => [.ref (ad 35), ii x0]) M (fun M' => Fr [35] M M') := by
  obtain ⟨hI, hW⟩ := hJ
  have hF : Fr [35] M M := Fr.rf
  refine en_v (by decide +kernel) (fun ad => by exact Nat.le_of_ble_eq_true rfl) (fun D cy ad A p e s m args below meth c Q F hret => ?_)
  refine z_eq (ls' := [(0, .ref (ad 35)), (1, ii x0)]) rfl rfl rfl ?_
  refine z_aload_n F dX7_passTime_0 rfl (q := 0) rfl ?_
  refine z_dup F dX7_passTime_1 rfl ?_
  refine gf_X7_47 F hI gs_35 rfl bd_35_6 dX7_passTime_2 (fun v1 ev1 av1 bv1 => ?_)
  refine z_iload_n F dX7_passTime_5 rfl (q := 1) rfl ?_
  refine z_aload_n F dX7_passTime_6 rfl (q := 0) rfl ?_
  refine zv_i (rest := [ii x0, ii v1, .ref (ad 35)]) F (k_X7_clashCount_35 l M ⟨hI, hW⟩) cs_X7_124 (T := TX7) (N := 7) (ci := 7) rfl gs_35 (by decide) (by decide) rfl rfl rfl (Nat.le_of_ble_eq_true rfl) dX7_passTime_7 (fun v2 M3 rv2 hI p4 => ?_)
  obtain ⟨hI, hW⟩ := hI
  obtain ⟨⟨av2, bv2⟩, rfl⟩ := p4
  refine z_imul F dX7_passTime_10 ?_
  refine z_wrap (fun v5 rv5 _ => ?_)
  refine z_iadd F dX7_passTime_11 ?_
  refine z_wrap (fun v6 rv6 wv6 => ?_)
  refine pf_X7_47 F hI gs_35 rfl bd_35_6 rfl rfl dX7_passTime_12 (by omega) (by omega) (fun M8 hI sf7 f7 => ?_)
  have hF := hF.wr f7 (by decide) (by decide)
  have hW : WFk M8 := hW.site f7 (by decide)
  refine z_aload_n F dX7_passTime_15 rfl (q := 0) rfl ?_
  refine z_dup F dX7_passTime_16 rfl ?_
  refine gf_X7_44 F hI gs_35 rfl bd_35_5 dX7_passTime_17 (fun v9 ev9 av9 bv9 => ?_)
  refine z_iload_n F dX7_passTime_20 rfl (q := 1) rfl ?_
  refine z_iadd F dX7_passTime_21 ?_
  refine z_wrap (fun v10 rv10 wv10 => ?_)
  refine pf_X7_44 F hI gs_35 rfl bd_35_5 rfl rfl dX7_passTime_22 (by omega) (by omega) (fun M12 hI sf11 f11 => ?_)
  have hF := hF.wr f11 (by decide) (by decide)
  have hW : WFk M12 := hW.site f11 (by decide)
  exact hret _ 25 _ ⟨hI, hW⟩ hF dX7_passTime_25
set_option maxRecDepth 4000 in
theorem k_X7_shift_35 (l : Launch) (M : Mem) (hJ : Iw M) (x0 : Int) (hx0a : 0 ≤ x0) (hx0b : x0 ≤ 7) (x1 : Int) (hx1a : 0 ≤ x1) (hx1b : x1 ≤ 9) : CI l yX7_shift cX7_shift 4 (some .int) 5 (fun ad => [.ref (ad 35), ii x0, ii x1]) M (fun z M' => ((-2147483648) ≤ z ∧ z ≤ 2147483647) ∧ Fr [35, 36] M M') := by
  obtain ⟨hI, hW⟩ := hJ
  have hF : Fr [35, 36] M M := Fr.rf
  refine en_i (by decide +kernel) (fun ad => by exact Nat.le_of_ble_eq_true rfl) (fun D cy ad A p e s m args below meth c Q F hret => ?_)
  refine z_eq (ls' := [(0, .ref (ad 35)), (1, ii x0), (2, ii x1)]) rfl rfl rfl ?_
  refine z_aload_n F dX7_shift_0 rfl (q := 0) rfl ?_
  refine z_iload_n F dX7_shift_1 rfl (q := 1) rfl ?_
  refine z_iload_n F dX7_shift_2 rfl (q := 2) rfl ?_
  refine zv_i (rest := []) F (k_X7_minutesTo_35 l M ⟨hI, hW⟩ x0 (by omega) (by omega) x1 (by omega) (by omega)) cs_X7_128 (T := TX7) (N := 7) (ci := 7) rfl gs_35 (by decide) (by decide) rfl rfl rfl (Nat.le_of_ble_eq_true rfl) dX7_shift_3 (fun v1 M2 rv1 hI p3 => ?_)
  obtain ⟨hI, hW⟩ := hI
  obtain ⟨⟨av1, bv1⟩, rfl⟩ := p3
  refine z_istore_n F dX7_shift_6 rfl (by decide) (ls' := [(3, ii v1), (0, .ref (ad 35)), (1, ii x0), (2, ii x1)]) rfl ?_
  refine z_aload_n F dX7_shift_7 rfl (q := 1) rfl ?_
  refine z_iload_n F dX7_shift_8 rfl (q := 0) rfl ?_
  refine zv_v (rest := []) F (k_X7_passTime_35 l M ⟨hI, hW⟩ v1 (by omega) (by omega)) cs_X7_131 (T := TX7) (N := 7) (ci := 7) rfl gs_35 (by decide) (by decide) rfl rfl rfl (Nat.le_of_ble_eq_true rfl) dX7_shift_9 (fun M4 hI p5 => ?_)
  obtain ⟨hI, hW⟩ := hI
  have fp5 := p5
  have hF := hF.call fp5 (by decide)
  refine z_aload_n F dX7_shift_12 rfl (q := 1) rfl ?_
  refine rf_X7_9 F gs_35 rfl dX7_shift_13 ?_
  refine z_iload_n F dX7_shift_16 rfl (q := 2) rfl ?_
  refine z_iload_n F dX7_shift_17 rfl (q := 3) rfl ?_
  refine z_iast F hI gs_36 (by omega) (by omega) (by decide) bd_36 dX7_shift_18 (by omega) (by omega) (fun M7 hI sf6 f6 => ?_)
  have hF := hF.wr f6 (by decide) (by decide)
  have hW : WFk M7 := hW.site f6 (by decide)
  refine z_iload_n F dX7_shift_19 rfl (q := 0) rfl ?_
  exact hret _ _ 20 _ (by omega) ⟨hI, hW⟩ ⟨⟨by omega, by omega⟩, hF⟩ dX7_shift_20
set_option maxRecDepth 4000 in
theorem k_X11_move (l : Launch) (M : Mem) (hJ : Iw M) (x0 : Int) (hx0a : (-2147483648) ≤ x0) (hx0b : x0 ≤ 2147483647) (x1 : Int) (hx1a : (-2147483648) ≤ x1) (hx1b : x1 ≤ 2147483647) : CI l yX11_move cX11_move 4 (some .int) 6 (fun ad => [.ref (ad 0), ii x0, ii x1]) M (fun z M' => ((-2147483648) ≤ z ∧ z ≤ 2147483647) ∧ Fr [35, 36, 40, 41] M M') := by
  obtain ⟨hI, hW⟩ := hJ
  have hF : Fr [35, 36, 40, 41] M M := Fr.rf
  refine en_i (by decide +kernel) (fun ad => by exact Nat.le_of_ble_eq_true rfl) (fun D cy ad A p e s m args below meth c Q F hret => ?_)
  refine z_eq (ls' := [(0, .ref (ad 0)), (1, ii x0), (2, ii x1)]) rfl rfl rfl ?_
  refine z_aload_n F dX11_move_0 rfl (q := 0) rfl ?_
  refine rf_X11_34 F gs_0 rfl dX11_move_1 ?_
  refine z_iload_n F dX11_move_4 rfl (q := 1) rfl ?_
  refine z_iload_n F dX11_move_5 rfl (q := 2) rfl ?_
  refine zv_i (rest := []) F (k_X7_obstacle_35 l M ⟨hI, hW⟩ x0 (by omega) (by omega) x1 (by omega) (by omega)) cs_X11_225 (T := TX7) (N := 7) (ci := 7) rfl gs_35 (by decide) (by decide) rfl rfl rfl (Nat.le_of_ble_eq_true rfl) dX11_move_6 (fun v1 M2 rv1 hI p3 => ?_)
  obtain ⟨hI, hW⟩ := hI
  obtain ⟨⟨av1, bv1⟩, rfl, xp3⟩ := p3
  refine z_istore_n F dX11_move_9 rfl (by decide) (ls' := [(3, ii v1), (0, .ref (ad 0)), (1, ii x0), (2, ii x1)]) rfl ?_
  refine z_iload_n F dX11_move_10 rfl (q := 0) rfl ?_
  refine z_if_eq (tgt := 17) F dX11_move_11 (by decide +kernel) (by omega) (fun c4 => ?_) (fun c4 => ?_)
  · refine z_aload_n F dX11_move_17 rfl (q := 1) rfl ?_
    refine rf_X11_41 F gs_0 rfl dX11_move_18 ?_
    refine z_aload_n F dX11_move_21 rfl (q := 1) rfl ?_
    refine rf_X11_34 F gs_0 rfl dX11_move_22 ?_
    refine zv_v (rest := []) F (k_X4_keep_40_35 l M ⟨hI, hW⟩) cs_X11_217 (T := TX4) (N := 3) (ci := 4) rfl gs_40 (by decide) (by decide) rfl rfl rfl (Nat.le_of_ble_eq_true rfl) dX11_move_25 (fun M5 hI p6 => ?_)
    obtain ⟨hI, hW⟩ := hI
    have fp6 := p6
    have hF := hF.call fp6 (by decide)
    refine z_aload_n F dX11_move_28 rfl (q := 1) rfl ?_
    refine rf_X11_34 F gs_0 rfl dX11_move_29 ?_
    refine z_iload_n F dX11_move_32 rfl (q := 2) rfl ?_
    refine z_iload_n F dX11_move_33 rfl (q := 3) rfl ?_
    refine zv_i (rest := []) F (k_X7_shift_35 l M5 ⟨hI, hW⟩ x0 (by omega) (by omega) x1 (by omega) (by omega)) cs_X11_228 (T := TX7) (N := 7) (ci := 7) rfl gs_35 (by decide) (by decide) rfl rfl rfl (Nat.le_of_ble_eq_true rfl) dX11_move_34 (fun v7 M8 rv7 hI p9 => ?_)
    obtain ⟨hI, hW⟩ := hI
    obtain ⟨⟨av7, bv7⟩, fp9⟩ := p9
    have hF := hF.call fp9 (by decide)
    exact hret _ _ 37 _ (by omega) ⟨hI, hW⟩ ⟨⟨by omega, by omega⟩, hF⟩ dX11_move_37
  · refine z_iload_n F dX11_move_14 rfl (q := 0) rfl ?_
    refine z_ineg F dX11_move_15 ?_
    exact hret _ _ 16 _ (by omega) ⟨hI, hW⟩ ⟨⟨by omega, by omega⟩, hF⟩ dX11_move_16
set_option maxRecDepth 4000 in
theorem k_X7_passDay_35 (l : Launch) (M : Mem) (hJ : Iw M) : CV l yX7_passDay cX7_passDay 4 none 6 (fun ad => [.ref (ad 35)]) M (fun M' => Fr [16, 17, 35, 37, 38, 39] M M') := by
  obtain ⟨hI, hW⟩ := hJ
  have hF : Fr [16, 17, 35, 37, 38, 39] M M := Fr.rf
  refine en_v (by decide +kernel) (fun ad => by exact Nat.le_of_ble_eq_true rfl) (fun D cy ad A p e s m args below meth c Q F hret => ?_)
  refine z_eq (ls' := [(0, .ref (ad 35))]) rfl rfl rfl ?_
  refine z_iconst F dX7_passDay_0 ?_
  refine z_istore_n F dX7_passDay_1 rfl (by decide) (ls' := [(1, ii 0), (0, .ref (ad 35))]) rfl ?_
  refine z_iconst F dX7_passDay_2 ?_
  refine z_istore_n F dX7_passDay_3 rfl (by decide) (ls' := [(2, ii 0), (1, ii 0), (0, .ref (ad 35))]) rfl ?_
  refine z_loc [2, 1, 0] (ls' := [(0, .ref (ad 35)), (1, ii 0), (2, ii 0)]) rfl ?_
  suffices key4 : ∀ (n : Nat) (y2 : Int) (y3 : Int) (M1 : Mem), Inv M1 → WFk M1 → Fr [16, 17, 35, 37, 38, 39] M M1 → (-2147483648) ≤ y2 → y2 ≤ 2147483647 → 0 ≤ y3 → y3 ≤ 6 → 6 - y3 < (n : Int) → Z D cy ad p l e (RMh 6) s m args below meth c A 4 0 0 Q 4 [(0, .ref (ad 35)), (1, ii y2), (2, ii y3)] [] M1 from key4 7 0 0 M hI hW hF (by omega) (by omega) (by omega) (by omega) (by omega)
  intro n4
  induction n4 with
  | zero => intro y2 y3 M1 hI hW hF ay2 by2 ay3 by3 hn4; exfalso; omega
  | succ n4 ih4 =>
    intro y2 y3 M1 hI hW hF ay2 by2 ay3 by3 hn4
    refine z_iload_n F dX7_passDay_4 rfl (q := 2) rfl ?_
    refine z_aload_n F dX7_passDay_5 rfl (q := 0) rfl ?_
    refine rf_X7_24 F gs_35 rfl dX7_passDay_6 ?_
    refine gf_X7_137 F hI gs_2 rfl bd_2_4 dX7_passDay_9 (fun v4 ev4 av4 bv4 => ?_)
    refine z_icmp_ge (tgt := 78) F dX7_passDay_12 (by decide +kernel) (by omega) (by omega) (fun c5 => ?_) (fun c5 => ?_)
    · refine z_aload_n F dX7_passDay_78 rfl (q := 0) rfl ?_
      refine z_sipush F dX7_passDay_79 (by decide +kernel) ?_
      refine z_iload_n F dX7_passDay_82 rfl (q := 1) rfl ?_
      refine z_isub F dX7_passDay_83 ?_
      refine z_wrap (fun v6 rv6 wv6 => ?_)
      refine zv_v (rest := []) F (k_X7_passTime_35 l M1 ⟨hI, hW⟩ v6 (by omega) (by omega)) cs_X7_131 (T := TX7) (N := 7) (ci := 7) rfl gs_35 (by decide) (by decide) rfl rfl rfl (Nat.le_of_ble_eq_true rfl) dX7_passDay_84 (fun M7 hI p8 => ?_)
      obtain ⟨hI, hW⟩ := hI
      have fp8 := p8
      have hF := hF.call fp8 (by decide)
      exact hret _ 87 _ ⟨hI, hW⟩ hF dX7_passDay_87
    · refine z_aload_n F dX7_passDay_15 rfl (q := 0) rfl ?_
      refine rf_X7_24 F gs_35 rfl dX7_passDay_16 ?_
      refine rf_X7_140 F gs_2 rfl dX7_passDay_19 ?_
      refine z_iload_n F dX7_passDay_22 rfl (q := 2) rfl ?_
      refine z_iald F hI gs_13 (by omega) (by omega) (by decide) bd_13 dX7_passDay_23 (fun v9 (ev9 : v9 = M1 13 _) av9 bv9 => ?_)
      refine z_istore_n F dX7_passDay_24 rfl (by decide) (ls' := [(3, ii v9), (0, .ref (ad 35)), (1, ii y2), (2, ii y3)]) rfl ?_
      refine z_aload_n F dX7_passDay_25 rfl (q := 1) rfl ?_
      refine z_aload_n F dX7_passDay_26 rfl (q := 1) rfl ?_
      refine rf_X7_24 F gs_35 rfl dX7_passDay_27 ?_
      refine rf_X7_143 F gs_2 rfl dX7_passDay_30 ?_
      refine z_iload_n F dX7_passDay_33 rfl (q := 0) rfl ?_
      refine z_iald F hI gs_10 (by omega) (by omega) (by decide) bd_10 dX7_passDay_34 (fun v10 (ev10 : v10 = M1 10 _) av10 bv10 => ?_)
      refine z_iload_n F dX7_passDay_35 rfl (q := 2) rfl ?_
      refine z_isub F dX7_passDay_36 ?_
      refine z_wrap (fun v11 rv11 wv11 => ?_)
      refine zv_v (rest := []) F (k_X7_passTime_35 l M1 ⟨hI, hW⟩ v11 (by omega) (by omega)) cs_X7_131 (T := TX7) (N := 7) (ci := 7) rfl gs_35 (by decide) (by decide) rfl rfl rfl (Nat.le_of_ble_eq_true rfl) dX7_passDay_37 (fun M12 hI p13 => ?_)
      obtain ⟨hI, hW⟩ := hI
      have fp13 := p13
      have hF := hF.call fp13 (by decide)
      refine z_aload_n F dX7_passDay_40 rfl (q := 1) rfl ?_
      refine rf_X7_24 F gs_35 rfl dX7_passDay_41 ?_
      refine rf_X7_143 F gs_2 rfl dX7_passDay_44 ?_
      refine z_iload_n F dX7_passDay_47 rfl (q := 0) rfl ?_
      refine z_iald F hI gs_10 (by omega) (by omega) (by decide) bd_10 dX7_passDay_48 (fun v14 (ev14 : v14 = M12 10 _) av14 bv14 => ?_)
      have q15 : v10 = M12 10 (v9).toNat := ev10.trans ((fp13.at (by decide)) : M12 10 (v9).toNat = _).symm
      have zv14 : v10 = v14 := q15.trans ev14.symm
      subst zv14
      refine z_istore_n F dX7_passDay_49 rfl (by decide) (ls' := [(1, ii v10), (3, ii v9), (0, .ref (ad 35)), (2, ii y3)]) rfl ?_
      refine z_aload_n F dX7_passDay_50 rfl (q := 2) rfl ?_
      refine z_aload_n F dX7_passDay_51 rfl (q := 2) rfl ?_
      refine rf_X7_24 F gs_35 rfl dX7_passDay_52 ?_
      refine rf_X7_146 F gs_2 rfl dX7_passDay_55 ?_
      refine z_iload_n F dX7_passDay_58 rfl (q := 1) rfl ?_
      refine z_iald F hI gs_11 (by omega) (by omega) (by decide) bd_11 dX7_passDay_59 (fun v16 (ev16 : v16 = M12 11 _) av16 bv16 => ?_)
      refine z_aload_n F dX7_passDay_60 rfl (q := 2) rfl ?_
      refine rf_X7_24 F gs_35 rfl dX7_passDay_61 ?_
      refine rf_X7_149 F gs_2 rfl dX7_passDay_64 ?_
      refine z_iload_n F dX7_passDay_67 rfl (q := 1) rfl ?_
      refine z_iald F hI gs_12 (by omega) (by omega) (by decide) bd_12 dX7_passDay_68 (fun v17 (ev17 : v17 = M12 12 _) av17 bv17 => ?_)
      refine zv_v (rest := []) F (k_X7_addTo_35 l M12 ⟨hI, hW⟩ v16 (by omega) (by omega) v17 (by omega) (by omega)) cs_X7_152 (T := TX7) (N := 7) (ci := 7) rfl gs_35 (by decide) (by decide) rfl rfl rfl (Nat.le_of_ble_eq_true rfl) dX7_passDay_69 (fun M18 hI p19 => ?_)
      obtain ⟨hI, hW⟩ := hI
      have fp19 := p19
      have hF := hF.call fp19 (by decide)
      refine z_iincN F dX7_passDay_72 (q := 3) rfl (by decide) (fun v20 ev20 => ?_)
      refine z_eq (ls' := [(2, ii v20), (1, ii v10), (3, ii v9), (0, .ref (ad 35))]) rfl rfl rfl ?_
      refine z_goto (tgt := 4) F dX7_passDay_75 (by decide +kernel) ?_
      refine z_loc [3, 1, 0] (ls' := [(0, .ref (ad 35)), (1, ii v10), (2, ii v20)]) rfl ?_
      exact ih4 v10 v20 M18 hI hW hF (by omega) (by omega) (by omega) (by omega) (by omega)
set_option maxRecDepth 4000 in
theorem k_X11_days (l : Launch) (hlT : l.stackTraces = false) (M : Mem) (hJ : Iw M) (x0 : Int) (hx0a : (-2147483648) ≤ x0) (hx0b : x0 ≤ 2147483647) : CIX l yX11_days cX11_days 4 (some .int) 7 1 (fun ad => [.ref (ad 0), ii x0]) M (fun z M' => ((-2147483648) ≤ z ∧ z ≤ 2147483647) ∧ Fr [16, 17, 35, 37, 38, 39, 40, 41] M M') (fun E M' => (E = "java/lang/IllegalArgumentException" ∧ True ∧ Fr [16, 17, 35, 37, 38, 39, 40, 41] M M')) := by
  obtain ⟨hI, hW⟩ := hJ
  have hF : Fr [16, 17, 35, 37, 38, 39, 40, 41] M M := Fr.rf
  refine enx_i (by decide +kernel) (fun ad => by exact Nat.le_of_ble_eq_true rfl) (fun D cy ad A p e s m args below meth c Q F hQ hr hlk hex => ?_)
  refine z_eq (ls' := [(0, .ref (ad 0)), (1, ii x0)]) rfl rfl rfl ?_
  refine z_iload_n F dX11_days_0 rfl (q := 1) rfl ?_
  refine z_iconst F dX11_days_1 ?_
  refine z_icmp_lt (tgt := 11) F dX11_days_2 (by decide +kernel) (by omega) (by omega) (fun c1 => ?_) (fun c1 => ?_)
  · exact z_thrS (cls := "java/lang/IllegalArgumentException") (names := ["java/lang/RuntimeException", "java/lang/Exception"]) (j := 35) F hlT hQ hlk hex (by decide +kernel) (by decide +kernel) (by decide) (gin lm_360 rfl) (gin lm_361 rfl) at_X11_105 bad_X11_105 (by decide +kernel) ot_X11_105 rfl rfl rfl dX11_days_11 dX11_days_14 dX11_days_15 dX11_days_17 dX11_days_20 ⟨by decide, by decide⟩ (Nat.le_of_ble_eq_true rfl) ⟨hI, hW⟩ (⟨rfl, trivial, hF⟩)
  · refine z_iload_n F dX11_days_5 rfl (q := 1) rfl ?_
    refine z_bipush F dX11_days_6 (by decide +kernel) ?_
    refine z_icmp_le (tgt := 21) F dX11_days_8 (by decide +kernel) (by omega) (by omega) (fun c2 => ?_) (fun c2 => ?_)
    · refine z_aload_n F dX11_days_21 rfl (q := 0) rfl ?_
      refine rf_X11_34 F gs_0 rfl dX11_days_22 ?_
      refine gf_X11_233 F hI gs_35 rfl bd_35_6 dX11_days_25 (fun v3 ev3 av3 bv3 => ?_)
      refine z_istore_n F dX11_days_28 rfl (by decide) (ls' := [(2, ii v3), (0, .ref (ad 0)), (1, ii x0)]) rfl ?_
      refine z_iconst F dX11_days_29 ?_
      refine z_istore_n F dX11_days_30 rfl (by decide) (ls' := [(3, ii 0), (2, ii v3), (0, .ref (ad 0)), (1, ii x0)]) rfl ?_
      refine z_loc [2, 3, 1, 0] (ls' := [(0, .ref (ad 0)), (1, ii x0), (2, ii v3), (3, ii 0)]) rfl ?_
      suffices key31 : ∀ (n : Nat) (y5 : Int) (M4 : Mem), Inv M4 → WFk M4 → Fr [16, 17, 35, 37, 38, 39, 40, 41] M M4 → 0 ≤ y5 → y5 ≤ 9 → 9 - y5 < (n : Int) → Z D cy ad p l e (RMx 7 1) s m args below meth c A 4 0 0 Q 31 [(0, .ref (ad 0)), (1, ii x0), (2, ii v3), (3, ii y5)] [] M4 from key31 10 0 M hI hW hF (by omega) (by omega) (by omega)
      intro n31
      induction n31 with
      | zero => intro y5 M4 hI hW hF ay5 by5 hn31; exfalso; omega
      | succ n31 ih31 =>
        intro y5 M4 hI hW hF ay5 by5 hn31
        refine z_iload_n F dX11_days_31 rfl (q := 3) rfl ?_
        refine z_iload_n F dX11_days_32 rfl (q := 1) rfl ?_
        refine z_icmp_ge (tgt := 60) F dX11_days_33 (by decide +kernel) (by omega) (by omega) (fun c6 => ?_) (fun c6 => ?_)
        · refine z_aload_n F dX11_days_60 rfl (q := 0) rfl ?_
          refine rf_X11_34 F gs_0 rfl dX11_days_61 ?_
          refine gf_X11_233 F hI gs_35 rfl bd_35_6 dX11_days_64 (fun v7 ev7 av7 bv7 => ?_)
          refine z_iload_n F dX11_days_67 rfl (q := 2) rfl ?_
          refine z_isub F dX11_days_68 ?_
          refine z_wrap (fun v8 rv8 wv8 => ?_)
          exact zxr_i F hQ hr hlk dX11_days_69 ⟨by decide, by decide⟩ (by omega) ⟨hI, hW⟩ ⟨⟨by omega, by omega⟩, hF⟩
        · refine z_aload_n F dX11_days_36 rfl (q := 0) rfl ?_
          refine rf_X11_41 F gs_0 rfl dX11_days_37 ?_
          refine z_aload_n F dX11_days_40 rfl (q := 0) rfl ?_
          refine rf_X11_34 F gs_0 rfl dX11_days_41 ?_
          refine zw_v (rest := []) F (k_X4_keep_40_35 l M4 ⟨hI, hW⟩) cs_X11_217 (T := TX4) (N := 3) (ci := 4) rfl gs_40 (by decide) (by decide) ⟨by decide, by decide⟩ rfl rfl rfl (Nat.le_of_ble_eq_true rfl) dX11_days_44 (fun M9 hI p10 => ?_)
          obtain ⟨hI, hW⟩ := hI
          have fp10 := p10
          have hF := hF.call fp10 (by decide)
          refine z_aload_n F dX11_days_47 rfl (q := 0) rfl ?_
          refine rf_X11_34 F gs_0 rfl dX11_days_48 ?_
          refine zw_v (rest := []) F (k_X7_passDay_35 l M9 ⟨hI, hW⟩) cs_X11_236 (T := TX7) (N := 7) (ci := 7) rfl gs_35 (by decide) (by decide) ⟨by decide, by decide⟩ rfl rfl rfl (Nat.le_of_ble_eq_true rfl) dX11_days_51 (fun M11 hI p12 => ?_)
          obtain ⟨hI, hW⟩ := hI
          have fp12 := p12
          have hF := hF.call fp12 (by decide)
          refine z_iincN F dX11_days_54 (q := 3) rfl (by decide) (fun v13 ev13 => ?_)
          refine z_eq (ls' := [(3, ii v13), (0, .ref (ad 0)), (1, ii x0), (2, ii v3)]) rfl rfl rfl ?_
          refine z_goto (tgt := 31) F dX11_days_57 (by decide +kernel) ?_
          refine z_loc [1, 2, 3, 0] (ls' := [(0, .ref (ad 0)), (1, ii x0), (2, ii v3), (3, ii v13)]) rfl ?_
          exact ih31 v13 M11 hI hW hF (by omega) (by omega) (by omega)
    · exact z_thrS (cls := "java/lang/IllegalArgumentException") (names := ["java/lang/RuntimeException", "java/lang/Exception"]) (j := 35) F hlT hQ hlk hex (by decide +kernel) (by decide +kernel) (by decide) (gin lm_360 rfl) (gin lm_361 rfl) at_X11_105 bad_X11_105 (by decide +kernel) ot_X11_105 rfl rfl rfl dX11_days_11 dX11_days_14 dX11_days_15 dX11_days_17 dX11_days_20 ⟨by decide, by decide⟩ (Nat.le_of_ble_eq_true rfl) ⟨hI, hW⟩ (⟨rfl, trivial, hF⟩)
set_option maxRecDepth 4000 in
theorem k_J9_floorMod_7cf53 (l : Launch) (M : Mem) (hJ : Iw M) (x0 : Int) (hx0a : (-24) ≤ x0) (hx0b : x0 ≤ 24) (x1 : Int) (hx1a : 12 ≤ x1) (hx1b : x1 ≤ 12) : CI l yJ9_floorMod_7cf53 cJ9_floorMod_7cf53 3 (some .int) 1 (fun ad => [ii x0, ii x1]) M (fun z M' => ((-11) ≤ z ∧ z ≤ 23) ∧ M = M' ∧ (0 ≤ z ∧ z ≤ 11)) := by
  obtain ⟨hI, hW⟩ := hJ
  refine en_iF (by decide +kernel) (fun ad => by exact Nat.le_of_ble_eq_true rfl) (fun D cy ad A p e s m args below meth c Q F hret => ?_)
  refine z_eq (ls' := [(0, ii x0), (1, ii x1)]) rfl rfl rfl ?_
  refine z_iload_n F dJ9_floorMod_7cf53_0 rfl (q := 0) rfl ?_
  refine z_iload_n F dJ9_floorMod_7cf53_1 rfl (q := 1) rfl ?_
  refine z_irem0 F dJ9_floorMod_7cf53_2 (ne0_32 (by omega) (by omega)) (fun v1 ev1 rv1 => ?_)
  have hfr := fm_r (x := x0) (y := x1) (by omega) (by omega) (by omega) ev1
  refine z_istore_n F dJ9_floorMod_7cf53_3 rfl (by decide) (ls' := [(2, ii v1), (0, ii x0), (1, ii x1)]) rfl ?_
  have k2 : (-11) ≤ v1 ∧ v1 ≤ 11 := by omega
  refine z_iload_n F dJ9_floorMod_7cf53_4 rfl (q := 1) rfl ?_
  refine z_iload_n F dJ9_floorMod_7cf53_5 rfl (q := 2) rfl ?_
  refine z_ixor0 F dJ9_floorMod_7cf53_6 (fun v3 ev3 rv3 => ?_)
  have hfw := fm_w (x := x0) (y := x1) (by omega) (by omega) (by omega) ev3
  refine z_if_ge (tgt := 18) F dJ9_floorMod_7cf53_7 (by decide +kernel) (by omega) (fun c4 => ?_) (fun c4 => ?_)
  · refine z_iload_n F dJ9_floorMod_7cf53_18 rfl (q := 0) rfl ?_
    exact hret _ _ 19 _ (by omega) ⟨hI, hW⟩ ⟨⟨by omega, by omega⟩, rfl, (by omega)⟩ dJ9_floorMod_7cf53_19
  · refine z_iload_n F dJ9_floorMod_7cf53_10 rfl (q := 0) rfl ?_
    refine z_if_eq (tgt := 18) F dJ9_floorMod_7cf53_11 (by decide +kernel) (by omega) (fun c5 => ?_) (fun c5 => ?_)
    · refine z_iload_n F dJ9_floorMod_7cf53_18 rfl (q := 0) rfl ?_
      exact hret _ _ 19 _ (by omega) ⟨hI, hW⟩ ⟨⟨by omega, by omega⟩, rfl, (by omega)⟩ dJ9_floorMod_7cf53_19
    · refine z_iload_n F dJ9_floorMod_7cf53_14 rfl (q := 0) rfl ?_
      refine z_iload_n F dJ9_floorMod_7cf53_15 rfl (q := 2) rfl ?_
      refine z_iadd F dJ9_floorMod_7cf53_16 ?_
      exact hret _ _ 17 _ (by omega) ⟨hI, hW⟩ ⟨⟨by omega, by omega⟩, rfl, (by omega)⟩ dJ9_floorMod_7cf53_17
set_option maxRecDepth 4000 in
theorem k_X7_load_35_41 (l : Launch) (M : Mem) (hJ : Iw M) (x1 : Int) (hx1a : (-2147483648) ≤ x1) (hx1b : x1 ≤ 2147483647) (hp0 : x1 % 34 = 0) : CV l yX7_load cX7_load 3 none 1 (fun ad => [.ref (ad 35), .ref (ad 41), ii x1]) M (fun M' => Fr [35, 36, 37, 38, 39] M M') := by
  obtain ⟨hI, hW⟩ := hJ
  have hF : Fr [35, 36, 37, 38, 39] M M := Fr.rf
  refine en_v (by decide +kernel) (fun ad => by exact Nat.le_of_ble_eq_true rfl) (fun D cy ad A p e s m args below meth c Q F hret => ?_)
  refine z_eq (ls' := [(0, .ref (ad 35)), (1, .ref (ad 41)), (2, ii x1)]) rfl rfl rfl ?_
  refine z_iload_n F dX7_load_0 rfl (q := 2) rfl ?_
  refine z_if_lt (tgt := 13) F dX7_load_1 (by decide +kernel) (by omega) (fun c1 => ?_) (fun c1 => ?_)
  · exact hret _ 13 _ ⟨hI, hW⟩ hF dX7_load_13
  · refine z_iload_n F dX7_load_4 rfl (q := 2) rfl ?_
    refine z_aload_n F dX7_load_5 rfl (q := 1) rfl ?_
    refine z_alen (x := 408) F gs_41 rfl rfl dX7_load_6 ?_
    refine z_bipush F dX7_load_7 (by decide +kernel) ?_
    refine z_isub F dX7_load_9 ?_
    refine z_icmp_le (tgt := 14) F dX7_load_10 (by decide +kernel) (by omega) (by omega) (fun c2 => ?_) (fun c2 => ?_)
    · refine z_aload_n F dX7_load_14 rfl (q := 1) rfl ?_
      refine z_iload_n F dX7_load_15 rfl (q := 2) rfl ?_
      refine z_aload_n F dX7_load_16 rfl (q := 0) rfl ?_
      refine rf_X7_9 F gs_35 rfl dX7_load_17 ?_
      refine z_iconst F dX7_load_20 ?_
      refine z_bipush F dX7_load_21 (by decide +kernel) ?_
      refine z_copy F (by decide) ac_X7_50 hI gs_41 gs_36 (by omega) (by omega) (by omega) (by omega) (by omega) (by decide) (by decide) (fun i hi => (show Bd 36 _ = (0, 9) from rfl).trans (show Bd 41 _ = (0, 9) from (bd_41.trans (sc_p (by omega)))).symm) (Nat.le_of_ble_eq_true rfl) dX7_load_23 (fun M4 hI g3 => ?_)
      have hF := hF.call g3 (by decide)
      have hW : WFk M4 := hW.fr g3 (by decide) (by decide)
      refine z_aload_n F dX7_load_26 rfl (q := 1) rfl ?_
      refine z_iload_n F dX7_load_27 rfl (q := 2) rfl ?_
      refine z_bipush F dX7_load_28 (by decide +kernel) ?_
      refine z_iadd F dX7_load_30 ?_
      refine z_aload_n F dX7_load_31 rfl (q := 0) rfl ?_
      refine rf_X7_15 F gs_35 rfl dX7_load_32 ?_
      refine z_iconst F dX7_load_35 ?_
      refine z_bipush F dX7_load_36 (by decide +kernel) ?_
      refine z_copy F (by decide) ac_X7_50 hI gs_41 gs_37 (by omega) (by omega) (by omega) (by omega) (by omega) (by decide) (by decide) (fun i hi => (show Bd 37 _ = (-2147483648, 2147483647) from rfl).trans (show Bd 41 _ = (-2147483648, 2147483647) from (bd_41.trans (sc_n (by omega)))).symm) (Nat.le_of_ble_eq_true rfl) dX7_load_38 (fun M6 hI g5 => ?_)
      have hF := hF.call g5 (by decide)
      have hW : WFk M6 := hW.fr g5 (by decide) (by decide)
      refine z_aload_n F dX7_load_41 rfl (q := 1) rfl ?_
      refine z_iload_n F dX7_load_42 rfl (q := 2) rfl ?_
      refine z_bipush F dX7_load_43 (by decide +kernel) ?_
      refine z_iadd F dX7_load_45 ?_
      refine z_aload_n F dX7_load_46 rfl (q := 0) rfl ?_
      refine rf_X7_18 F gs_35 rfl dX7_load_47 ?_
      refine z_iconst F dX7_load_50 ?_
      refine z_bipush F dX7_load_51 (by decide +kernel) ?_
      refine z_copy F (by decide) ac_X7_50 hI gs_41 gs_38 (by omega) (by omega) (by omega) (by omega) (by omega) (by decide) (by decide) (fun i hi => (show Bd 38 _ = (-2147483648, 2147483647) from rfl).trans (show Bd 41 _ = (-2147483648, 2147483647) from (bd_41.trans (sc_n (by omega)))).symm) (Nat.le_of_ble_eq_true rfl) dX7_load_53 (fun M8 hI g7 => ?_)
      have hF := hF.call g7 (by decide)
      have hW : WFk M8 := hW.fr g7 (by decide) (by decide)
      refine z_aload_n F dX7_load_56 rfl (q := 1) rfl ?_
      refine z_iload_n F dX7_load_57 rfl (q := 2) rfl ?_
      refine z_bipush F dX7_load_58 (by decide +kernel) ?_
      refine z_iadd F dX7_load_60 ?_
      refine z_aload_n F dX7_load_61 rfl (q := 0) rfl ?_
      refine rf_X7_21 F gs_35 rfl dX7_load_62 ?_
      refine z_iconst F dX7_load_65 ?_
      refine z_bipush F dX7_load_66 (by decide +kernel) ?_
      refine z_copy F (by decide) ac_X7_50 hI gs_41 gs_39 (by omega) (by omega) (by omega) (by omega) (by omega) (by decide) (by decide) (fun i hi => (show Bd 39 _ = (-2147483648, 2147483647) from rfl).trans (show Bd 41 _ = (-2147483648, 2147483647) from (bd_41.trans (sc_n (by omega)))).symm) (Nat.le_of_ble_eq_true rfl) dX7_load_68 (fun M10 hI g9 => ?_)
      have hF := hF.call g9 (by decide)
      have hW : WFk M10 := hW.fr g9 (by decide) (by decide)
      refine z_aload_n F dX7_load_71 rfl (q := 0) rfl ?_
      refine z_aload_n F dX7_load_72 rfl (q := 1) rfl ?_
      refine z_iload_n F dX7_load_73 rfl (q := 2) rfl ?_
      refine z_bipush F dX7_load_74 (by decide +kernel) ?_
      refine z_iadd F dX7_load_76 ?_
      refine z_iconst F dX7_load_77 ?_
      refine z_isub F dX7_load_78 ?_
      refine z_iald F hI gs_41 (by omega) (by omega) (by decide) (bd_41.trans (sc_n (by omega))) dX7_load_79 (fun v11 (ev11 : v11 = M10 41 _) av11 bv11 => ?_)
      refine pf_X7_44 F hI gs_35 rfl bd_35_5 rfl rfl dX7_load_80 (by omega) (by omega) (fun M13 hI sf12 f12 => ?_)
      have hF := hF.wr f12 (by decide) (by decide)
      have hW : WFk M13 := hW.site f12 (by decide)
      refine z_aload_n F dX7_load_83 rfl (q := 0) rfl ?_
      refine z_aload_n F dX7_load_84 rfl (q := 1) rfl ?_
      refine z_iload_n F dX7_load_85 rfl (q := 2) rfl ?_
      refine z_bipush F dX7_load_86 (by decide +kernel) ?_
      refine z_iadd F dX7_load_88 ?_
      refine z_iconst F dX7_load_89 ?_
      refine z_isub F dX7_load_90 ?_
      refine z_iald F hI gs_41 (by omega) (by omega) (by decide) (bd_41.trans (sc_n (by omega))) dX7_load_91 (fun v14 (ev14 : v14 = M13 41 _) av14 bv14 => ?_)
      refine pf_X7_47 F hI gs_35 rfl bd_35_6 rfl rfl dX7_load_92 (by omega) (by omega) (fun M16 hI sf15 f15 => ?_)
      have hF := hF.wr f15 (by decide) (by decide)
      have hW : WFk M16 := hW.site f15 (by decide)
      exact hret _ 95 _ ⟨hI, hW⟩ hF dX7_load_95
    · exact hret _ 13 _ ⟨hI, hW⟩ hF dX7_load_13
