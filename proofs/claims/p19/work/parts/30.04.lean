theorem dX0_arrange_0 : decode cX0_arrange 0 = .ok (.iload 4, 2) := by decide +kernel
theorem dX0_arrange_10 : decode cX0_arrange 10 = .ok (.iload_n 1, 1) := by decide +kernel
theorem dX0_arrange_102 : decode cX0_arrange 102 = .ok (.iload 6, 2) := by decide +kernel
theorem dX0_arrange_104 : decode cX0_arrange 104 = .ok (.iload 7, 2) := by decide +kernel
theorem dX0_arrange_106 : decode cX0_arrange 106 = .ok (.aload_n 0, 1) := by decide +kernel
theorem dX0_arrange_107 : decode cX0_arrange 107 = .ok (.getfield 34, 3) := by decide +kernel
theorem dX0_arrange_11 : decode cX0_arrange 11 = .ok (.aload_n 0, 1) := by decide +kernel
theorem dX0_arrange_110 : decode cX0_arrange 110 = .ok (.getfield 168, 3) := by decide +kernel
theorem dX0_arrange_113 : decode cX0_arrange 113 = .ok (.iload 5, 2) := by decide +kernel
theorem dX0_arrange_115 : decode cX0_arrange 115 = .ok (.iaload, 1) := by decide +kernel
theorem dX0_arrange_116 : decode cX0_arrange 116 = .ok (.iadd, 1) := by decide +kernel
theorem dX0_arrange_117 : decode cX0_arrange 117 = .ok (.iconst 0, 1) := by decide +kernel
theorem dX0_arrange_118 : decode cX0_arrange 118 = .ok (.bipush 99, 2) := by decide +kernel
theorem dX0_arrange_12 : decode cX0_arrange 12 = .ok (.getfield 34, 3) := by decide +kernel
theorem dX0_arrange_120 : decode cX0_arrange 120 = .ok (.invokestatic 171, 3) := by decide +kernel
theorem dX0_arrange_123 : decode cX0_arrange 123 = .ok (.iastore, 1) := by decide +kernel
theorem dX0_arrange_124 : decode cX0_arrange 124 = .ok (.iload 8, 2) := by decide +kernel
theorem dX0_arrange_126 : decode cX0_arrange 126 = .ok (.aload_n 0, 1) := by decide +kernel
theorem dX0_arrange_127 : decode cX0_arrange 127 = .ok (.iload 6, 2) := by decide +kernel
theorem dX0_arrange_129 : decode cX0_arrange 129 = .ok (.invokevirtual 165, 3) := by decide +kernel
theorem dX0_arrange_132 : decode cX0_arrange 132 = .ok (.iadd, 1) := by decide +kernel
theorem dX0_arrange_133 : decode cX0_arrange 133 = .ok (.istore 9, 2) := by decide +kernel
theorem dX0_arrange_135 : decode cX0_arrange 135 = .ok (.aload_n 0, 1) := by decide +kernel
theorem dX0_arrange_136 : decode cX0_arrange 136 = .ok (.getfield 28, 3) := by decide +kernel
theorem dX0_arrange_139 : decode cX0_arrange 139 = .ok (.iload_n 1, 1) := by decide +kernel
theorem dX0_arrange_140 : decode cX0_arrange 140 = .ok (.iload 5, 2) := by decide +kernel
theorem dX0_arrange_142 : decode cX0_arrange 142 = .ok (.iastore, 1) := by decide +kernel
theorem dX0_arrange_143 : decode cX0_arrange 143 = .ok (.aload_n 0, 1) := by decide +kernel
theorem dX0_arrange_144 : decode cX0_arrange 144 = .ok (.iload_n 1, 1) := by decide +kernel
theorem dX0_arrange_145 : decode cX0_arrange 145 = .ok (.iconst 1, 1) := by decide +kernel
theorem dX0_arrange_146 : decode cX0_arrange 146 = .ok (.iadd, 1) := by decide +kernel
theorem dX0_arrange_147 : decode cX0_arrange 147 = .ok (.iload_n 2, 1) := by decide +kernel
theorem dX0_arrange_148 : decode cX0_arrange 148 = .ok (.iconst 1, 1) := by decide +kernel
theorem dX0_arrange_149 : decode cX0_arrange 149 = .ok (.iload 5, 2) := by decide +kernel
theorem dX0_arrange_15 : decode cX0_arrange 15 = .ok (.getfield 159, 3) := by decide +kernel
theorem dX0_arrange_151 : decode cX0_arrange 151 = .ok (.ishl, 1) := by decide +kernel
theorem dX0_arrange_152 : decode cX0_arrange 152 = .ok (.ior, 1) := by decide +kernel
theorem dX0_arrange_153 : decode cX0_arrange 153 = .ok (.iload 9, 2) := by decide +kernel
theorem dX0_arrange_155 : decode cX0_arrange 155 = .ok (.iload 4, 2) := by decide +kernel
theorem dX0_arrange_157 : decode cX0_arrange 157 = .ok (.iload 9, 2) := by decide +kernel
theorem dX0_arrange_159 : decode cX0_arrange 159 = .ok (.iadd, 1) := by decide +kernel
theorem dX0_arrange_160 : decode cX0_arrange 160 = .ok (.invokevirtual 155, 3) := by decide +kernel
theorem dX0_arrange_163 : decode cX0_arrange 163 = .ok (.aload_n 0, 1) := by decide +kernel
theorem dX0_arrange_164 : decode cX0_arrange 164 = .ok (.getfield 25, 3) := by decide +kernel
theorem dX0_arrange_167 : decode cX0_arrange 167 = .ok (.iload 6, 2) := by decide +kernel
theorem dX0_arrange_169 : decode cX0_arrange 169 = .ok (.iload 7, 2) := by decide +kernel
theorem dX0_arrange_171 : decode cX0_arrange 171 = .ok (.iastore, 1) := by decide +kernel
theorem dX0_arrange_172 : decode cX0_arrange 172 = .ok (.iinc 5 1, 3) := by decide +kernel
theorem dX0_arrange_175 : decode cX0_arrange 175 = .ok (.goto (-129), 3) := by decide +kernel
theorem dX0_arrange_178 : decode cX0_arrange 178 = .ok (.return_, 1) := by decide +kernel
theorem dX0_arrange_18 : decode cX0_arrange 18 = .ok (.if_icmp .lt 25, 3) := by decide +kernel
theorem dX0_arrange_2 : decode cX0_arrange 2 = .ok (.aload_n 0, 1) := by decide +kernel
theorem dX0_arrange_21 : decode cX0_arrange 21 = .ok (.aload_n 0, 1) := by decide +kernel
theorem dX0_arrange_22 : decode cX0_arrange 22 = .ok (.iload 4, 2) := by decide +kernel
theorem dX0_arrange_24 : decode cX0_arrange 24 = .ok (.putfield 149, 3) := by decide +kernel
theorem dX0_arrange_27 : decode cX0_arrange 27 = .ok (.aload_n 0, 1) := by decide +kernel
theorem dX0_arrange_28 : decode cX0_arrange 28 = .ok (.getfield 28, 3) := by decide +kernel
theorem dX0_arrange_3 : decode cX0_arrange 3 = .ok (.getfield 149, 3) := by decide +kernel
theorem dX0_arrange_31 : decode cX0_arrange 31 = .ok (.iconst 0, 1) := by decide +kernel
theorem dX0_arrange_32 : decode cX0_arrange 32 = .ok (.aload_n 0, 1) := by decide +kernel
theorem dX0_arrange_33 : decode cX0_arrange 33 = .ok (.getfield 31, 3) := by decide +kernel
theorem dX0_arrange_36 : decode cX0_arrange 36 = .ok (.iconst 0, 1) := by decide +kernel
theorem dX0_arrange_37 : decode cX0_arrange 37 = .ok (.bipush 6, 2) := by decide +kernel
theorem dX0_arrange_39 : decode cX0_arrange 39 = .ok (.invokestatic 142, 3) := by decide +kernel
theorem dX0_arrange_42 : decode cX0_arrange 42 = .ok (.return_, 1) := by decide +kernel
theorem dX0_arrange_43 : decode cX0_arrange 43 = .ok (.iconst 0, 1) := by decide +kernel
theorem dX0_arrange_44 : decode cX0_arrange 44 = .ok (.istore 5, 2) := by decide +kernel
theorem dX0_arrange_46 : decode cX0_arrange 46 = .ok (.iload 5, 2) := by decide +kernel
theorem dX0_arrange_48 : decode cX0_arrange 48 = .ok (.aload_n 0, 1) := by decide +kernel
theorem dX0_arrange_49 : decode cX0_arrange 49 = .ok (.getfield 34, 3) := by decide +kernel
theorem dX0_arrange_52 : decode cX0_arrange 52 = .ok (.getfield 159, 3) := by decide +kernel
theorem dX0_arrange_55 : decode cX0_arrange 55 = .ok (.if_icmp .ge 123, 3) := by decide +kernel
theorem dX0_arrange_58 : decode cX0_arrange 58 = .ok (.iload_n 2, 1) := by decide +kernel
theorem dX0_arrange_59 : decode cX0_arrange 59 = .ok (.iload 5, 2) := by decide +kernel
theorem dX0_arrange_6 : decode cX0_arrange 6 = .ok (.if_icmp .lt 4, 3) := by decide +kernel
theorem dX0_arrange_61 : decode cX0_arrange 61 = .ok (.invokestatic 52, 3) := by decide +kernel
theorem dX0_arrange_64 : decode cX0_arrange 64 = .ok (.ifCond .ne 108, 3) := by decide +kernel
theorem dX0_arrange_67 : decode cX0_arrange 67 = .ok (.aload_n 0, 1) := by decide +kernel
theorem dX0_arrange_68 : decode cX0_arrange 68 = .ok (.getfield 34, 3) := by decide +kernel
theorem dX0_arrange_71 : decode cX0_arrange 71 = .ok (.getfield 162, 3) := by decide +kernel
theorem dX0_arrange_74 : decode cX0_arrange 74 = .ok (.iload 5, 2) := by decide +kernel
theorem dX0_arrange_76 : decode cX0_arrange 76 = .ok (.iaload, 1) := by decide +kernel
theorem dX0_arrange_77 : decode cX0_arrange 77 = .ok (.istore 6, 2) := by decide +kernel
theorem dX0_arrange_79 : decode cX0_arrange 79 = .ok (.aload_n 0, 1) := by decide +kernel
theorem dX0_arrange_80 : decode cX0_arrange 80 = .ok (.getfield 25, 3) := by decide +kernel
theorem dX0_arrange_83 : decode cX0_arrange 83 = .ok (.iload 6, 2) := by decide +kernel
theorem dX0_arrange_85 : decode cX0_arrange 85 = .ok (.iaload, 1) := by decide +kernel
theorem dX0_arrange_86 : decode cX0_arrange 86 = .ok (.istore 7, 2) := by decide +kernel
theorem dX0_arrange_88 : decode cX0_arrange 88 = .ok (.iload_n 3, 1) := by decide +kernel
theorem dX0_arrange_89 : decode cX0_arrange 89 = .ok (.aload_n 0, 1) := by decide +kernel
theorem dX0_arrange_9 : decode cX0_arrange 9 = .ok (.return_, 1) := by decide +kernel
theorem dX0_arrange_90 : decode cX0_arrange 90 = .ok (.iload 6, 2) := by decide +kernel
theorem dX0_arrange_92 : decode cX0_arrange 92 = .ok (.invokevirtual 165, 3) := by decide +kernel
theorem dX0_arrange_95 : decode cX0_arrange 95 = .ok (.isub, 1) := by decide +kernel
theorem dX0_arrange_96 : decode cX0_arrange 96 = .ok (.istore 8, 2) := by decide +kernel
theorem dX0_arrange_98 : decode cX0_arrange 98 = .ok (.aload_n 0, 1) := by decide +kernel
theorem dX0_arrange_99 : decode cX0_arrange 99 = .ok (.getfield 25, 3) := by decide +kernel
theorem dX0_fewestFlips_0 : decode cX0_fewestFlips 0 = .ok (.aload_n 0, 1) := by decide +kernel
theorem dX0_fewestFlips_1 : decode cX0_fewestFlips 1 = .ok (.iconst 1, 1) := by decide +kernel
theorem dX0_fewestFlips_11 : decode cX0_fewestFlips 11 = .ok (.getfield 72, 3) := by decide +kernel
theorem dX0_fewestFlips_14 : decode cX0_fewestFlips 14 = .ok (.iconst 1, 1) := by decide +kernel
theorem dX0_fewestFlips_15 : decode cX0_fewestFlips 15 = .ok (.iadd, 1) := by decide +kernel
theorem dX0_fewestFlips_16 : decode cX0_fewestFlips 16 = .ok (.istore_n 2, 1) := by decide +kernel
theorem dX0_fewestFlips_17 : decode cX0_fewestFlips 17 = .ok (.iconst 0, 1) := by decide +kernel
theorem dX0_fewestFlips_18 : decode cX0_fewestFlips 18 = .ok (.istore_n 3, 1) := by decide +kernel
theorem dX0_fewestFlips_19 : decode cX0_fewestFlips 19 = .ok (.iload_n 3, 1) := by decide +kernel
theorem dX0_fewestFlips_2 : decode cX0_fewestFlips 2 = .ok (.invokevirtual 94, 3) := by decide +kernel
theorem dX0_fewestFlips_20 : decode cX0_fewestFlips 20 = .ok (.iconst 1, 1) := by decide +kernel
theorem dX0_fewestFlips_21 : decode cX0_fewestFlips 21 = .ok (.aload_n 0, 1) := by decide +kernel
theorem dX0_fewestFlips_22 : decode cX0_fewestFlips 22 = .ok (.getfield 34, 3) := by decide +kernel
theorem dX0_fewestFlips_25 : decode cX0_fewestFlips 25 = .ok (.getfield 72, 3) := by decide +kernel
theorem dX0_fewestFlips_28 : decode cX0_fewestFlips 28 = .ok (.ishl, 1) := by decide +kernel
theorem dX0_fewestFlips_29 : decode cX0_fewestFlips 29 = .ok (.if_icmp .ge 32, 3) := by decide +kernel
theorem dX0_fewestFlips_32 : decode cX0_fewestFlips 32 = .ok (.iload_n 3, 1) := by decide +kernel
theorem dX0_fewestFlips_33 : decode cX0_fewestFlips 33 = .ok (.invokestatic 98, 3) := by decide +kernel
theorem dX0_fewestFlips_36 : decode cX0_fewestFlips 36 = .ok (.iload_n 2, 1) := by decide +kernel
theorem dX0_fewestFlips_37 : decode cX0_fewestFlips 37 = .ok (.if_icmp .ge 18, 3) := by decide +kernel
theorem dX0_fewestFlips_40 : decode cX0_fewestFlips 40 = .ok (.aload_n 0, 1) := by decide +kernel
theorem dX0_fewestFlips_41 : decode cX0_fewestFlips 41 = .ok (.iload_n 3, 1) := by decide +kernel
theorem dX0_fewestFlips_42 : decode cX0_fewestFlips 42 = .ok (.invokevirtual 104, 3) := by decide +kernel
theorem dX0_fewestFlips_45 : decode cX0_fewestFlips 45 = .ok (.ifCond .eq 10, 3) := by decide +kernel
theorem dX0_fewestFlips_48 : decode cX0_fewestFlips 48 = .ok (.iload_n 3, 1) := by decide +kernel
theorem dX0_fewestFlips_49 : decode cX0_fewestFlips 49 = .ok (.istore_n 1, 1) := by decide +kernel
theorem dX0_fewestFlips_5 : decode cX0_fewestFlips 5 = .ok (.iconst (-1), 1) := by decide +kernel
theorem dX0_fewestFlips_50 : decode cX0_fewestFlips 50 = .ok (.iload_n 3, 1) := by decide +kernel
theorem dX0_fewestFlips_51 : decode cX0_fewestFlips 51 = .ok (.invokestatic 98, 3) := by decide +kernel
theorem dX0_fewestFlips_54 : decode cX0_fewestFlips 54 = .ok (.istore_n 2, 1) := by decide +kernel
theorem dX0_fewestFlips_55 : decode cX0_fewestFlips 55 = .ok (.iinc 3 1, 3) := by decide +kernel
theorem dX0_fewestFlips_58 : decode cX0_fewestFlips 58 = .ok (.goto (-39), 3) := by decide +kernel
theorem dX0_fewestFlips_6 : decode cX0_fewestFlips 6 = .ok (.istore_n 1, 1) := by decide +kernel
theorem dX0_fewestFlips_61 : decode cX0_fewestFlips 61 = .ok (.iload_n 1, 1) := by decide +kernel
theorem dX0_fewestFlips_62 : decode cX0_fewestFlips 62 = .ok (.ireturn, 1) := by decide +kernel
theorem dX0_fewestFlips_7 : decode cX0_fewestFlips 7 = .ok (.aload_n 0, 1) := by decide +kernel
theorem dX0_fewestFlips_8 : decode cX0_fewestFlips 8 = .ok (.getfield 34, 3) := by decide +kernel
theorem dX0_flipped_0 : decode cX0_flipped 0 = .ok (.iload_n 0, 1) := by decide +kernel
theorem dX0_flipped_1 : decode cX0_flipped 1 = .ok (.istore_n 2, 1) := by decide +kernel
theorem dX0_flipped_10 : decode cX0_flipped 10 = .ok (.bipush 99, 2) := by decide +kernel
theorem dX0_flipped_12 : decode cX0_flipped 12 = .ok (.if_icmp .ne 9, 3) := by decide +kernel
theorem dX0_flipped_15 : decode cX0_flipped 15 = .ok (.iload_n 2, 1) := by decide +kernel
theorem dX0_flipped_16 : decode cX0_flipped 16 = .ok (.iconst 1, 1) := by decide +kernel
theorem dX0_flipped_17 : decode cX0_flipped 17 = .ok (.isub, 1) := by decide +kernel
theorem dX0_flipped_18 : decode cX0_flipped 18 = .ok (.goto 6, 3) := by decide +kernel
theorem dX0_flipped_2 : decode cX0_flipped 2 = .ok (.iconst 0, 1) := by decide +kernel
theorem dX0_flipped_21 : decode cX0_flipped 21 = .ok (.iload_n 2, 1) := by decide +kernel
theorem dX0_flipped_22 : decode cX0_flipped 22 = .ok (.iconst 1, 1) := by decide +kernel
theorem dX0_flipped_23 : decode cX0_flipped 23 = .ok (.iadd, 1) := by decide +kernel
theorem dX0_flipped_24 : decode cX0_flipped 24 = .ok (.istore_n 2, 1) := by decide +kernel
theorem dX0_flipped_25 : decode cX0_flipped 25 = .ok (.iinc 3 1, 3) := by decide +kernel
theorem dX0_flipped_28 : decode cX0_flipped 28 = .ok (.goto (-24), 3) := by decide +kernel
theorem dX0_flipped_3 : decode cX0_flipped 3 = .ok (.istore_n 3, 1) := by decide +kernel
theorem dX0_flipped_31 : decode cX0_flipped 31 = .ok (.iload_n 2, 1) := by decide +kernel
theorem dX0_flipped_32 : decode cX0_flipped 32 = .ok (.ireturn, 1) := by decide +kernel
theorem dX0_flipped_4 : decode cX0_flipped 4 = .ok (.iload_n 3, 1) := by decide +kernel
theorem dX0_flipped_5 : decode cX0_flipped 5 = .ok (.iload_n 1, 1) := by decide +kernel
theorem dX0_flipped_6 : decode cX0_flipped 6 = .ok (.if_icmp .ge 25, 3) := by decide +kernel
theorem dX0_flipped_9 : decode cX0_flipped 9 = .ok (.iload_n 2, 1) := by decide +kernel
theorem dX0_foresee_0 : decode cX0_foresee 0 = .ok (.iconst 0, 1) := by decide +kernel
theorem dX0_foresee_1 : decode cX0_foresee 1 = .ok (.istore_n 2, 1) := by decide +kernel
theorem dX0_foresee_10 : decode cX0_foresee 10 = .ok (.if_icmp .ge 68, 3) := by decide +kernel
theorem dX0_foresee_13 : decode cX0_foresee 13 = .ok (.aload_n 0, 1) := by decide +kernel
theorem dX0_foresee_14 : decode cX0_foresee 14 = .ok (.getfield 15, 3) := by decide +kernel
theorem dX0_foresee_17 : decode cX0_foresee 17 = .ok (.iload_n 2, 1) := by decide +kernel
theorem dX0_foresee_18 : decode cX0_foresee 18 = .ok (.iconst 0, 1) := by decide +kernel
theorem dX0_foresee_19 : decode cX0_foresee 19 = .ok (.iastore, 1) := by decide +kernel
theorem dX0_foresee_2 : decode cX0_foresee 2 = .ok (.iload_n 2, 1) := by decide +kernel
theorem dX0_foresee_20 : decode cX0_foresee 20 = .ok (.iload_n 2, 1) := by decide +kernel
theorem dX0_foresee_21 : decode cX0_foresee 21 = .ok (.iconst 1, 1) := by decide +kernel
theorem dX0_foresee_22 : decode cX0_foresee 22 = .ok (.iadd, 1) := by decide +kernel
theorem dX0_foresee_23 : decode cX0_foresee 23 = .ok (.istore_n 3, 1) := by decide +kernel
theorem dX0_foresee_24 : decode cX0_foresee 24 = .ok (.iload_n 3, 1) := by decide +kernel
theorem dX0_foresee_25 : decode cX0_foresee 25 = .ok (.aload_n 0, 1) := by decide +kernel
theorem dX0_foresee_26 : decode cX0_foresee 26 = .ok (.getfield 34, 3) := by decide +kernel
theorem dX0_foresee_29 : decode cX0_foresee 29 = .ok (.getfield 72, 3) := by decide +kernel
theorem dX0_foresee_3 : decode cX0_foresee 3 = .ok (.aload_n 0, 1) := by decide +kernel
theorem dX0_foresee_32 : decode cX0_foresee 32 = .ok (.if_icmp .ge 40, 3) := by decide +kernel
theorem dX0_foresee_35 : decode cX0_foresee 35 = .ok (.aload_n 0, 1) := by decide +kernel
theorem dX0_foresee_36 : decode cX0_foresee 36 = .ok (.getfield 11, 3) := by decide +kernel
theorem dX0_foresee_39 : decode cX0_foresee 39 = .ok (.iload_n 2, 1) := by decide +kernel
theorem dX0_foresee_4 : decode cX0_foresee 4 = .ok (.getfield 34, 3) := by decide +kernel
theorem dX0_foresee_40 : decode cX0_foresee 40 = .ok (.bipush 8, 2) := by decide +kernel
theorem dX0_foresee_42 : decode cX0_foresee 42 = .ok (.imul, 1) := by decide +kernel
theorem dX0_foresee_43 : decode cX0_foresee 43 = .ok (.iload_n 3, 1) := by decide +kernel
theorem dX0_foresee_44 : decode cX0_foresee 44 = .ok (.iadd, 1) := by decide +kernel
theorem dX0_foresee_45 : decode cX0_foresee 45 = .ok (.aload_n 0, 1) := by decide +kernel
theorem dX0_foresee_46 : decode cX0_foresee 46 = .ok (.iload_n 2, 1) := by decide +kernel
theorem dX0_foresee_47 : decode cX0_foresee 47 = .ok (.iload_n 3, 1) := by decide +kernel
theorem dX0_foresee_48 : decode cX0_foresee 48 = .ok (.invokevirtual 76, 3) := by decide +kernel
theorem dX0_foresee_51 : decode cX0_foresee 51 = .ok (.ifCond .eq 13, 3) := by decide +kernel
theorem dX0_foresee_54 : decode cX0_foresee 54 = .ok (.aload_n 0, 1) := by decide +kernel
theorem dX0_foresee_55 : decode cX0_foresee 55 = .ok (.iload_n 2, 1) := by decide +kernel
theorem dX0_foresee_56 : decode cX0_foresee 56 = .ok (.iload_n 3, 1) := by decide +kernel
theorem dX0_foresee_57 : decode cX0_foresee 57 = .ok (.iload_n 1, 1) := by decide +kernel
theorem dX0_foresee_58 : decode cX0_foresee 58 = .ok (.invokevirtual 79, 3) := by decide +kernel
theorem dX0_foresee_61 : decode cX0_foresee 61 = .ok (.goto 4, 3) := by decide +kernel
theorem dX0_foresee_64 : decode cX0_foresee 64 = .ok (.iconst 0, 1) := by decide +kernel
theorem dX0_foresee_65 : decode cX0_foresee 65 = .ok (.iastore, 1) := by decide +kernel
theorem dX0_foresee_66 : decode cX0_foresee 66 = .ok (.iinc 3 1, 3) := by decide +kernel
theorem dX0_foresee_69 : decode cX0_foresee 69 = .ok (.goto (-45), 3) := by decide +kernel
theorem dX0_foresee_7 : decode cX0_foresee 7 = .ok (.getfield 72, 3) := by decide +kernel
theorem dX0_foresee_72 : decode cX0_foresee 72 = .ok (.iinc 2 1, 3) := by decide +kernel
theorem dX0_foresee_75 : decode cX0_foresee 75 = .ok (.goto (-73), 3) := by decide +kernel
theorem dX0_foresee_78 : decode cX0_foresee 78 = .ok (.return_, 1) := by decide +kernel
theorem dX0_foulOf_0 : decode cX0_foulOf 0 = .ok (.iconst 0, 1) := by decide +kernel
theorem dX0_foulOf_1 : decode cX0_foulOf 1 = .ok (.istore 4, 2) := by decide +kernel
theorem dX0_foulOf_12 : decode cX0_foulOf 12 = .ok (.aload_n 0, 1) := by decide +kernel
theorem dX0_foulOf_13 : decode cX0_foulOf 13 = .ok (.getfield 38, 3) := by decide +kernel
theorem dX0_foulOf_16 : decode cX0_foulOf 16 = .ok (.getfield 83, 3) := by decide +kernel
theorem dX0_foulOf_19 : decode cX0_foulOf 19 = .ok (.iload_n 1, 1) := by decide +kernel
theorem dX0_foulOf_20 : decode cX0_foulOf 20 = .ok (.iaload, 1) := by decide +kernel
theorem dX0_foulOf_21 : decode cX0_foulOf 21 = .ok (.iload 5, 2) := by decide +kernel
theorem dX0_foulOf_23 : decode cX0_foulOf 23 = .ok (.invokestatic 86, 3) := by decide +kernel
theorem dX0_foulOf_26 : decode cX0_foulOf 26 = .ok (.istore 6, 2) := by decide +kernel
theorem dX0_foulOf_28 : decode cX0_foulOf 28 = .ok (.iconst 0, 1) := by decide +kernel
theorem dX0_foulOf_29 : decode cX0_foulOf 29 = .ok (.istore 7, 2) := by decide +kernel
theorem dX0_foulOf_3 : decode cX0_foulOf 3 = .ok (.iconst 0, 1) := by decide +kernel
theorem dX0_foulOf_31 : decode cX0_foulOf 31 = .ok (.iload 7, 2) := by decide +kernel
theorem dX0_foulOf_33 : decode cX0_foulOf 33 = .ok (.iload_n 3, 1) := by decide +kernel
theorem dX0_foulOf_34 : decode cX0_foulOf 34 = .ok (.if_icmp .gt 48, 3) := by decide +kernel
theorem dX0_foulOf_37 : decode cX0_foulOf 37 = .ok (.aload_n 0, 1) := by decide +kernel
theorem dX0_foulOf_38 : decode cX0_foulOf 38 = .ok (.iload_n 1, 1) := by decide +kernel
theorem dX0_foulOf_39 : decode cX0_foulOf 39 = .ok (.iload_n 2, 1) := by decide +kernel
theorem dX0_foulOf_4 : decode cX0_foulOf 4 = .ok (.istore 5, 2) := by decide +kernel
theorem dX0_foulOf_40 : decode cX0_foulOf 40 = .ok (.iload 6, 2) := by decide +kernel
theorem dX0_foulOf_42 : decode cX0_foulOf 42 = .ok (.aload_n 0, 1) := by decide +kernel
theorem dX0_foulOf_43 : decode cX0_foulOf 43 = .ok (.getfield 38, 3) := by decide +kernel
theorem dX0_foulOf_46 : decode cX0_foulOf 46 = .ok (.getfield 83, 3) := by decide +kernel
theorem dX0_foulOf_49 : decode cX0_foulOf 49 = .ok (.iload_n 2, 1) := by decide +kernel
theorem dX0_foulOf_50 : decode cX0_foulOf 50 = .ok (.iaload, 1) := by decide +kernel
theorem dX0_foulOf_51 : decode cX0_foulOf 51 = .ok (.iload 7, 2) := by decide +kernel
theorem dX0_foulOf_53 : decode cX0_foulOf 53 = .ok (.invokestatic 86, 3) := by decide +kernel
theorem dX0_foulOf_56 : decode cX0_foulOf 56 = .ok (.invokevirtual 90, 3) := by decide +kernel
theorem dX0_foulOf_59 : decode cX0_foulOf 59 = .ok (.ifCond .eq 17, 3) := by decide +kernel
theorem dX0_foulOf_6 : decode cX0_foulOf 6 = .ok (.iload 5, 2) := by decide +kernel
theorem dX0_foulOf_62 : decode cX0_foulOf 62 = .ok (.iload 4, 2) := by decide +kernel
theorem dX0_foulOf_64 : decode cX0_foulOf 64 = .ok (.iconst 1, 1) := by decide +kernel
theorem dX0_foulOf_65 : decode cX0_foulOf 65 = .ok (.iload 5, 2) := by decide +kernel
theorem dX0_foulOf_67 : decode cX0_foulOf 67 = .ok (.iconst 5, 1) := by decide +kernel
theorem dX0_foulOf_68 : decode cX0_foulOf 68 = .ok (.imul, 1) := by decide +kernel
theorem dX0_foulOf_69 : decode cX0_foulOf 69 = .ok (.iload 7, 2) := by decide +kernel
theorem dX0_foulOf_71 : decode cX0_foulOf 71 = .ok (.iadd, 1) := by decide +kernel
theorem dX0_foulOf_72 : decode cX0_foulOf 72 = .ok (.ishl, 1) := by decide +kernel
theorem dX0_foulOf_73 : decode cX0_foulOf 73 = .ok (.ior, 1) := by decide +kernel
theorem dX0_foulOf_74 : decode cX0_foulOf 74 = .ok (.istore 4, 2) := by decide +kernel
theorem dX0_foulOf_76 : decode cX0_foulOf 76 = .ok (.iinc 7 1, 3) := by decide +kernel
theorem dX0_foulOf_79 : decode cX0_foulOf 79 = .ok (.goto (-48), 3) := by decide +kernel
theorem dX0_foulOf_8 : decode cX0_foulOf 8 = .ok (.iload_n 3, 1) := by decide +kernel
theorem dX0_foulOf_82 : decode cX0_foulOf 82 = .ok (.iinc 5 1, 3) := by decide +kernel
theorem dX0_foulOf_85 : decode cX0_foulOf 85 = .ok (.goto (-79), 3) := by decide +kernel
theorem dX0_foulOf_88 : decode cX0_foulOf 88 = .ok (.iload 4, 2) := by decide +kernel
theorem dX0_foulOf_9 : decode cX0_foulOf 9 = .ok (.if_icmp .gt 79, 3) := by decide +kernel
theorem dX0_foulOf_90 : decode cX0_foulOf 90 = .ok (.ireturn, 1) := by decide +kernel
theorem dX0_isQuiet_0 : decode cX0_isQuiet 0 = .ok (.iconst 0, 1) := by decide +kernel
theorem dX0_isQuiet_1 : decode cX0_isQuiet 1 = .ok (.istore_n 2, 1) := by decide +kernel
theorem dX0_isQuiet_10 : decode cX0_isQuiet 10 = .ok (.if_icmp .ge 20, 3) := by decide +kernel
theorem dX0_isQuiet_13 : decode cX0_isQuiet 13 = .ok (.aload_n 0, 1) := by decide +kernel
theorem dX0_isQuiet_14 : decode cX0_isQuiet 14 = .ok (.getfield 15, 3) := by decide +kernel
theorem dX0_isQuiet_17 : decode cX0_isQuiet 17 = .ok (.iload_n 2, 1) := by decide +kernel
theorem dX0_isQuiet_18 : decode cX0_isQuiet 18 = .ok (.iload_n 1, 1) := by decide +kernel
theorem dX0_isQuiet_19 : decode cX0_isQuiet 19 = .ok (.iload_n 2, 1) := by decide +kernel
theorem dX0_isQuiet_2 : decode cX0_isQuiet 2 = .ok (.iload_n 2, 1) := by decide +kernel
theorem dX0_isQuiet_20 : decode cX0_isQuiet 20 = .ok (.ishr, 1) := by decide +kernel
theorem dX0_isQuiet_21 : decode cX0_isQuiet 21 = .ok (.iconst 1, 1) := by decide +kernel
theorem dX0_isQuiet_22 : decode cX0_isQuiet 22 = .ok (.iand, 1) := by decide +kernel
theorem dX0_isQuiet_23 : decode cX0_isQuiet 23 = .ok (.iastore, 1) := by decide +kernel
theorem dX0_isQuiet_24 : decode cX0_isQuiet 24 = .ok (.iinc 2 1, 3) := by decide +kernel
theorem dX0_isQuiet_27 : decode cX0_isQuiet 27 = .ok (.goto (-25), 3) := by decide +kernel
theorem dX0_isQuiet_3 : decode cX0_isQuiet 3 = .ok (.aload_n 0, 1) := by decide +kernel
theorem dX0_isQuiet_30 : decode cX0_isQuiet 30 = .ok (.aload_n 0, 1) := by decide +kernel
theorem dX0_isQuiet_31 : decode cX0_isQuiet 31 = .ok (.invokevirtual 108, 3) := by decide +kernel
theorem dX0_isQuiet_34 : decode cX0_isQuiet 34 = .ok (.ifCond .ne 7, 3) := by decide +kernel
theorem dX0_isQuiet_37 : decode cX0_isQuiet 37 = .ok (.iconst 1, 1) := by decide +kernel
theorem dX0_isQuiet_38 : decode cX0_isQuiet 38 = .ok (.goto 4, 3) := by decide +kernel
theorem dX0_isQuiet_4 : decode cX0_isQuiet 4 = .ok (.getfield 34, 3) := by decide +kernel
theorem dX0_isQuiet_41 : decode cX0_isQuiet 41 = .ok (.iconst 0, 1) := by decide +kernel
theorem dX0_isQuiet_42 : decode cX0_isQuiet 42 = .ok (.ireturn, 1) := by decide +kernel
theorem dX0_isQuiet_7 : decode cX0_isQuiet 7 = .ok (.getfield 72, 3) := by decide +kernel
theorem dX0_rub_0 : decode cX0_rub 0 = .ok (.aload_n 0, 1) := by decide +kernel
theorem dX0_rub_1 : decode cX0_rub 1 = .ok (.getfield 34, 3) := by decide +kernel
theorem dX0_rub_11 : decode cX0_rub 11 = .ok (.getfield 47, 3) := by decide +kernel
theorem dX0_rub_14 : decode cX0_rub 14 = .ok (.iload_n 1, 1) := by decide +kernel
theorem dX0_rub_15 : decode cX0_rub 15 = .ok (.iaload, 1) := by decide +kernel
theorem dX0_rub_16 : decode cX0_rub 16 = .ok (.iaload, 1) := by decide +kernel
theorem dX0_rub_17 : decode cX0_rub 17 = .ok (.aload_n 0, 1) := by decide +kernel
theorem dX0_rub_18 : decode cX0_rub 18 = .ok (.getfield 38, 3) := by decide +kernel
theorem dX0_rub_21 : decode cX0_rub 21 = .ok (.getfield 47, 3) := by decide +kernel
theorem dX0_rub_24 : decode cX0_rub 24 = .ok (.iload_n 2, 1) := by decide +kernel
theorem dX0_rub_25 : decode cX0_rub 25 = .ok (.iaload, 1) := by decide +kernel
theorem dX0_rub_26 : decode cX0_rub 26 = .ok (.invokestatic 52, 3) := by decide +kernel
theorem dX0_rub_29 : decode cX0_rub 29 = .ok (.istore 5, 2) := by decide +kernel
theorem dX0_rub_31 : decode cX0_rub 31 = .ok (.aload_n 0, 1) := by decide +kernel
theorem dX0_rub_32 : decode cX0_rub 32 = .ok (.getfield 34, 3) := by decide +kernel
theorem dX0_rub_35 : decode cX0_rub 35 = .ok (.getfield 59, 3) := by decide +kernel
theorem dX0_rub_38 : decode cX0_rub 38 = .ok (.iload_n 3, 1) := by decide +kernel
theorem dX0_rub_39 : decode cX0_rub 39 = .ok (.iload 4, 2) := by decide +kernel
theorem dX0_rub_4 : decode cX0_rub 4 = .ok (.getfield 56, 3) := by decide +kernel
theorem dX0_rub_41 : decode cX0_rub 41 = .ok (.aload_n 0, 1) := by decide +kernel
theorem dX0_rub_42 : decode cX0_rub 42 = .ok (.getfield 34, 3) := by decide +kernel
theorem dX0_rub_45 : decode cX0_rub 45 = .ok (.getfield 63, 3) := by decide +kernel
theorem dX0_rub_48 : decode cX0_rub 48 = .ok (.iload_n 1, 1) := by decide +kernel
theorem dX0_rub_49 : decode cX0_rub 49 = .ok (.iaload, 1) := by decide +kernel
theorem dX0_rub_50 : decode cX0_rub 50 = .ok (.aload_n 0, 1) := by decide +kernel
theorem dX0_rub_51 : decode cX0_rub 51 = .ok (.getfield 34, 3) := by decide +kernel
theorem dX0_rub_54 : decode cX0_rub 54 = .ok (.getfield 63, 3) := by decide +kernel
theorem dX0_rub_57 : decode cX0_rub 57 = .ok (.iload_n 2, 1) := by decide +kernel
theorem dX0_rub_58 : decode cX0_rub 58 = .ok (.iaload, 1) := by decide +kernel
theorem dX0_rub_59 : decode cX0_rub 59 = .ok (.if_icmp .ne 7, 3) := by decide +kernel
theorem dX0_rub_62 : decode cX0_rub 62 = .ok (.iconst 1, 1) := by decide +kernel
theorem dX0_rub_63 : decode cX0_rub 63 = .ok (.goto 4, 3) := by decide +kernel
theorem dX0_rub_66 : decode cX0_rub 66 = .ok (.iconst 0, 1) := by decide +kernel
theorem dX0_rub_67 : decode cX0_rub 67 = .ok (.iload 5, 2) := by decide +kernel
theorem dX0_rub_69 : decode cX0_rub 69 = .ok (.invokevirtual 66, 3) := by decide +kernel
theorem dX0_rub_7 : decode cX0_rub 7 = .ok (.aload_n 0, 1) := by decide +kernel
theorem dX0_rub_72 : decode cX0_rub 72 = .ok (.ireturn, 1) := by decide +kernel
theorem dX0_rub_8 : decode cX0_rub 8 = .ok (.getfield 38, 3) := by decide +kernel
theorem dX0_rubsOf_0 : decode cX0_rubsOf 0 = .ok (.iconst 0, 1) := by decide +kernel
theorem dX0_rubsOf_1 : decode cX0_rubsOf 1 = .ok (.istore_n 2, 1) := by decide +kernel
theorem dX0_rubsOf_12 : decode cX0_rubsOf 12 = .ok (.if_icmp .ge 70, 3) := by decide +kernel
theorem dX0_rubsOf_15 : decode cX0_rubsOf 15 = .ok (.iload_n 3, 1) := by decide +kernel
theorem dX0_rubsOf_16 : decode cX0_rubsOf 16 = .ok (.iload_n 1, 1) := by decide +kernel
theorem dX0_rubsOf_17 : decode cX0_rubsOf 17 = .ok (.if_icmp .eq 59, 3) := by decide +kernel
theorem dX0_rubsOf_2 : decode cX0_rubsOf 2 = .ok (.iconst 0, 1) := by decide +kernel
theorem dX0_rubsOf_20 : decode cX0_rubsOf 20 = .ok (.aload_n 0, 1) := by decide +kernel
theorem dX0_rubsOf_21 : decode cX0_rubsOf 21 = .ok (.iload_n 1, 1) := by decide +kernel
theorem dX0_rubsOf_22 : decode cX0_rubsOf 22 = .ok (.iload_n 3, 1) := by decide +kernel
theorem dX0_rubsOf_23 : decode cX0_rubsOf 23 = .ok (.invokevirtual 76, 3) := by decide +kernel
theorem dX0_rubsOf_26 : decode cX0_rubsOf 26 = .ok (.ifCond .eq 50, 3) := by decide +kernel
theorem dX0_rubsOf_29 : decode cX0_rubsOf 29 = .ok (.iload_n 1, 1) := by decide +kernel
theorem dX0_rubsOf_3 : decode cX0_rubsOf 3 = .ok (.istore_n 3, 1) := by decide +kernel
theorem dX0_rubsOf_30 : decode cX0_rubsOf 30 = .ok (.iload_n 3, 1) := by decide +kernel
theorem dX0_rubsOf_31 : decode cX0_rubsOf 31 = .ok (.invokestatic 174, 3) := by decide +kernel
theorem dX0_rubsOf_34 : decode cX0_rubsOf 34 = .ok (.istore 4, 2) := by decide +kernel
theorem dX0_rubsOf_36 : decode cX0_rubsOf 36 = .ok (.iload_n 1, 1) := by decide +kernel
theorem dX0_rubsOf_37 : decode cX0_rubsOf 37 = .ok (.iload_n 3, 1) := by decide +kernel
theorem dX0_rubsOf_38 : decode cX0_rubsOf 38 = .ok (.invokestatic 179, 3) := by decide +kernel
theorem dX0_rubsOf_4 : decode cX0_rubsOf 4 = .ok (.iload_n 3, 1) := by decide +kernel
theorem dX0_rubsOf_41 : decode cX0_rubsOf 41 = .ok (.istore 5, 2) := by decide +kernel
theorem dX0_rubsOf_43 : decode cX0_rubsOf 43 = .ok (.iload_n 2, 1) := by decide +kernel
theorem dX0_rubsOf_44 : decode cX0_rubsOf 44 = .ok (.aload_n 0, 1) := by decide +kernel
theorem dX0_rubsOf_45 : decode cX0_rubsOf 45 = .ok (.iload 4, 2) := by decide +kernel
theorem dX0_rubsOf_47 : decode cX0_rubsOf 47 = .ok (.iload 5, 2) := by decide +kernel
theorem dX0_rubsOf_49 : decode cX0_rubsOf 49 = .ok (.aload_n 0, 1) := by decide +kernel
theorem dX0_rubsOf_5 : decode cX0_rubsOf 5 = .ok (.aload_n 0, 1) := by decide +kernel
theorem dX0_rubsOf_50 : decode cX0_rubsOf 50 = .ok (.getfield 25, 3) := by decide +kernel
theorem dX0_rubsOf_53 : decode cX0_rubsOf 53 = .ok (.iload 4, 2) := by decide +kernel
theorem dX0_rubsOf_55 : decode cX0_rubsOf 55 = .ok (.iaload, 1) := by decide +kernel
theorem dX0_rubsOf_56 : decode cX0_rubsOf 56 = .ok (.aload_n 0, 1) := by decide +kernel
theorem dX0_rubsOf_57 : decode cX0_rubsOf 57 = .ok (.getfield 25, 3) := by decide +kernel
theorem dX0_rubsOf_6 : decode cX0_rubsOf 6 = .ok (.getfield 34, 3) := by decide +kernel
theorem dX0_rubsOf_60 : decode cX0_rubsOf 60 = .ok (.iload 5, 2) := by decide +kernel
theorem dX0_rubsOf_62 : decode cX0_rubsOf 62 = .ok (.iaload, 1) := by decide +kernel
theorem dX0_rubsOf_63 : decode cX0_rubsOf 63 = .ok (.invokevirtual 90, 3) := by decide +kernel
theorem dX0_rubsOf_66 : decode cX0_rubsOf 66 = .ok (.ifCond .eq 7, 3) := by decide +kernel
theorem dX0_rubsOf_69 : decode cX0_rubsOf 69 = .ok (.iconst 1, 1) := by decide +kernel
theorem dX0_rubsOf_70 : decode cX0_rubsOf 70 = .ok (.goto 4, 3) := by decide +kernel
theorem dX0_rubsOf_73 : decode cX0_rubsOf 73 = .ok (.iconst 0, 1) := by decide +kernel
theorem dX0_rubsOf_74 : decode cX0_rubsOf 74 = .ok (.iadd, 1) := by decide +kernel
theorem dX0_rubsOf_75 : decode cX0_rubsOf 75 = .ok (.istore_n 2, 1) := by decide +kernel
theorem dX0_rubsOf_76 : decode cX0_rubsOf 76 = .ok (.iinc 3 1, 3) := by decide +kernel
theorem dX0_rubsOf_79 : decode cX0_rubsOf 79 = .ok (.goto (-75), 3) := by decide +kernel
theorem dX0_rubsOf_82 : decode cX0_rubsOf 82 = .ok (.iload_n 2, 1) := by decide +kernel
theorem dX0_rubsOf_83 : decode cX0_rubsOf 83 = .ok (.ireturn, 1) := by decide +kernel
theorem dX0_rubsOf_9 : decode cX0_rubsOf 9 = .ok (.getfield 72, 3) := by decide +kernel
theorem dX0_touchEachOther_0 : decode cX0_touchEachOther 0 = .ok (.aload_n 0, 1) := by decide +kernel
theorem dX0_touchEachOther_1 : decode cX0_touchEachOther 1 = .ok (.getfield 34, 3) := by decide +kernel
theorem dX0_touchEachOther_11 : decode cX0_touchEachOther 11 = .ok (.getfield 47, 3) := by decide +kernel
theorem dX0_touchEachOther_14 : decode cX0_touchEachOther 14 = .ok (.iload_n 1, 1) := by decide +kernel
theorem dX0_touchEachOther_15 : decode cX0_touchEachOther 15 = .ok (.iaload, 1) := by decide +kernel
theorem dX0_touchEachOther_16 : decode cX0_touchEachOther 16 = .ok (.iaload, 1) := by decide +kernel
theorem dX0_touchEachOther_17 : decode cX0_touchEachOther 17 = .ok (.aload_n 0, 1) := by decide +kernel
theorem dX0_touchEachOther_18 : decode cX0_touchEachOther 18 = .ok (.getfield 38, 3) := by decide +kernel
theorem dX0_touchEachOther_21 : decode cX0_touchEachOther 21 = .ok (.getfield 47, 3) := by decide +kernel
theorem dX0_touchEachOther_24 : decode cX0_touchEachOther 24 = .ok (.iload_n 2, 1) := by decide +kernel
theorem dX0_touchEachOther_25 : decode cX0_touchEachOther 25 = .ok (.iaload, 1) := by decide +kernel
theorem dX0_touchEachOther_26 : decode cX0_touchEachOther 26 = .ok (.invokestatic 52, 3) := by decide +kernel
theorem dX0_touchEachOther_29 : decode cX0_touchEachOther 29 = .ok (.ireturn, 1) := by decide +kernel
theorem dX0_touchEachOther_4 : decode cX0_touchEachOther 4 = .ok (.getfield 42, 3) := by decide +kernel
theorem dX0_touchEachOther_7 : decode cX0_touchEachOther 7 = .ok (.aload_n 0, 1) := by decide +kernel
theorem dX0_touchEachOther_8 : decode cX0_touchEachOther 8 = .ok (.getfield 38, 3) := by decide +kernel
theorem dX0_turnedClashes_0 : decode cX0_turnedClashes 0 = .ok (.iconst 0, 1) := by decide +kernel
theorem dX0_turnedClashes_1 : decode cX0_turnedClashes 1 = .ok (.istore_n 1, 1) := by decide +kernel
theorem dX0_turnedClashes_12 : decode cX0_turnedClashes 12 = .ok (.if_icmp .ge 62, 3) := by decide +kernel
theorem dX0_turnedClashes_15 : decode cX0_turnedClashes 15 = .ok (.iload_n 2, 1) := by decide +kernel
theorem dX0_turnedClashes_16 : decode cX0_turnedClashes 16 = .ok (.iconst 1, 1) := by decide +kernel
theorem dX0_turnedClashes_17 : decode cX0_turnedClashes 17 = .ok (.iadd, 1) := by decide +kernel
theorem dX0_turnedClashes_18 : decode cX0_turnedClashes 18 = .ok (.istore_n 3, 1) := by decide +kernel
theorem dX0_turnedClashes_19 : decode cX0_turnedClashes 19 = .ok (.iload_n 3, 1) := by decide +kernel
theorem dX0_turnedClashes_2 : decode cX0_turnedClashes 2 = .ok (.iconst 0, 1) := by decide +kernel
theorem dX0_turnedClashes_20 : decode cX0_turnedClashes 20 = .ok (.aload_n 0, 1) := by decide +kernel
theorem dX0_turnedClashes_21 : decode cX0_turnedClashes 21 = .ok (.getfield 34, 3) := by decide +kernel
theorem dX0_turnedClashes_24 : decode cX0_turnedClashes 24 = .ok (.getfield 72, 3) := by decide +kernel
theorem dX0_turnedClashes_27 : decode cX0_turnedClashes 27 = .ok (.if_icmp .ge 41, 3) := by decide +kernel
theorem dX0_turnedClashes_3 : decode cX0_turnedClashes 3 = .ok (.istore_n 2, 1) := by decide +kernel
theorem dX0_turnedClashes_30 : decode cX0_turnedClashes 30 = .ok (.iload_n 1, 1) := by decide +kernel
theorem dX0_turnedClashes_31 : decode cX0_turnedClashes 31 = .ok (.aload_n 0, 1) := by decide +kernel
theorem dX0_turnedClashes_32 : decode cX0_turnedClashes 32 = .ok (.getfield 11, 3) := by decide +kernel
theorem dX0_turnedClashes_35 : decode cX0_turnedClashes 35 = .ok (.iload_n 2, 1) := by decide +kernel
theorem dX0_turnedClashes_36 : decode cX0_turnedClashes 36 = .ok (.bipush 8, 2) := by decide +kernel
theorem dX0_turnedClashes_38 : decode cX0_turnedClashes 38 = .ok (.imul, 1) := by decide +kernel
theorem dX0_turnedClashes_39 : decode cX0_turnedClashes 39 = .ok (.iload_n 3, 1) := by decide +kernel
theorem dX0_turnedClashes_4 : decode cX0_turnedClashes 4 = .ok (.iload_n 2, 1) := by decide +kernel
theorem dX0_turnedClashes_40 : decode cX0_turnedClashes 40 = .ok (.iadd, 1) := by decide +kernel
theorem dX0_turnedClashes_41 : decode cX0_turnedClashes 41 = .ok (.iaload, 1) := by decide +kernel
theorem dX0_turnedClashes_42 : decode cX0_turnedClashes 42 = .ok (.aload_n 0, 1) := by decide +kernel
theorem dX0_turnedClashes_43 : decode cX0_turnedClashes 43 = .ok (.getfield 15, 3) := by decide +kernel
theorem dX0_turnedClashes_46 : decode cX0_turnedClashes 46 = .ok (.iload_n 2, 1) := by decide +kernel
theorem dX0_turnedClashes_47 : decode cX0_turnedClashes 47 = .ok (.iaload, 1) := by decide +kernel
theorem dX0_turnedClashes_48 : decode cX0_turnedClashes 48 = .ok (.iconst 5, 1) := by decide +kernel
theorem dX0_turnedClashes_49 : decode cX0_turnedClashes 49 = .ok (.imul, 1) := by decide +kernel
theorem dX0_turnedClashes_5 : decode cX0_turnedClashes 5 = .ok (.aload_n 0, 1) := by decide +kernel
theorem dX0_turnedClashes_50 : decode cX0_turnedClashes 50 = .ok (.aload_n 0, 1) := by decide +kernel
theorem dX0_turnedClashes_51 : decode cX0_turnedClashes 51 = .ok (.getfield 15, 3) := by decide +kernel
theorem dX0_turnedClashes_54 : decode cX0_turnedClashes 54 = .ok (.iload_n 3, 1) := by decide +kernel
theorem dX0_turnedClashes_55 : decode cX0_turnedClashes 55 = .ok (.iaload, 1) := by decide +kernel
theorem dX0_turnedClashes_56 : decode cX0_turnedClashes 56 = .ok (.iadd, 1) := by decide +kernel
theorem dX0_turnedClashes_57 : decode cX0_turnedClashes 57 = .ok (.ishr, 1) := by decide +kernel
theorem dX0_turnedClashes_58 : decode cX0_turnedClashes 58 = .ok (.iconst 1, 1) := by decide +kernel
theorem dX0_turnedClashes_59 : decode cX0_turnedClashes 59 = .ok (.iand, 1) := by decide +kernel
theorem dX0_turnedClashes_6 : decode cX0_turnedClashes 6 = .ok (.getfield 34, 3) := by decide +kernel
theorem dX0_turnedClashes_60 : decode cX0_turnedClashes 60 = .ok (.iadd, 1) := by decide +kernel
theorem dX0_turnedClashes_61 : decode cX0_turnedClashes 61 = .ok (.istore_n 1, 1) := by decide +kernel
theorem dX0_turnedClashes_62 : decode cX0_turnedClashes 62 = .ok (.iinc 3 1, 3) := by decide +kernel
theorem dX0_turnedClashes_65 : decode cX0_turnedClashes 65 = .ok (.goto (-46), 3) := by decide +kernel
theorem dX0_turnedClashes_68 : decode cX0_turnedClashes 68 = .ok (.iinc 2 1, 3) := by decide +kernel
theorem dX0_turnedClashes_71 : decode cX0_turnedClashes 71 = .ok (.goto (-67), 3) := by decide +kernel
theorem dX0_turnedClashes_74 : decode cX0_turnedClashes 74 = .ok (.iload_n 1, 1) := by decide +kernel
theorem dX0_turnedClashes_75 : decode cX0_turnedClashes 75 = .ok (.ireturn, 1) := by decide +kernel
theorem dX0_turnedClashes_9 : decode cX0_turnedClashes 9 = .ok (.getfield 72, 3) := by decide +kernel
theorem dX11_flips_0 : decode cX11_flips 0 = .ok (.iload_n 1, 1) := by decide +kernel
theorem dX11_flips_1 : decode cX11_flips 1 = .ok (.iconst 1, 1) := by decide +kernel
theorem dX11_flips_12 : decode cX11_flips 12 = .ok (.istore_n 2, 1) := by decide +kernel
theorem dX11_flips_13 : decode cX11_flips 13 = .ok (.iload_n 2, 1) := by decide +kernel
theorem dX11_flips_14 : decode cX11_flips 14 = .ok (.iconst (-1), 1) := by decide +kernel
theorem dX11_flips_15 : decode cX11_flips 15 = .ok (.if_icmp .eq 8, 3) := by decide +kernel
theorem dX11_flips_18 : decode cX11_flips 18 = .ok (.iload_n 1, 1) := by decide +kernel
theorem dX11_flips_19 : decode cX11_flips 19 = .ok (.iconst 1, 1) := by decide +kernel
theorem dX11_flips_2 : decode cX11_flips 2 = .ok (.invokestatic 252, 3) := by decide +kernel
theorem dX11_flips_20 : decode cX11_flips 20 = .ok (.if_icmp .ne 7, 3) := by decide +kernel
theorem dX11_flips_23 : decode cX11_flips 23 = .ok (.iload_n 2, 1) := by decide +kernel
theorem dX11_flips_24 : decode cX11_flips 24 = .ok (.goto 7, 3) := by decide +kernel
theorem dX11_flips_27 : decode cX11_flips 27 = .ok (.iload_n 2, 1) := by decide +kernel
theorem dX11_flips_28 : decode cX11_flips 28 = .ok (.invokestatic 311, 3) := by decide +kernel
theorem dX11_flips_31 : decode cX11_flips 31 = .ok (.ireturn, 1) := by decide +kernel
theorem dX11_flips_5 : decode cX11_flips 5 = .ok (.aload_n 0, 1) := by decide +kernel
theorem dX11_flips_6 : decode cX11_flips 6 = .ok (.getfield 73, 3) := by decide +kernel
theorem dX11_flips_9 : decode cX11_flips 9 = .ok (.invokevirtual 351, 3) := by decide +kernel
theorem dX11_goWave_0 : decode cX11_goWave 0 = .ok (.aload_n 0, 1) := by decide +kernel
theorem dX11_goWave_1 : decode cX11_goWave 1 = .ok (.getfield 41, 3) := by decide +kernel
theorem dX11_goWave_11 : decode cX11_goWave 11 = .ok (.aload_n 0, 1) := by decide +kernel
theorem dX11_goWave_12 : decode cX11_goWave 12 = .ok (.getfield 80, 3) := by decide +kernel
theorem dX11_goWave_15 : decode cX11_goWave 15 = .ok (.invokevirtual 354, 3) := by decide +kernel
theorem dX11_goWave_18 : decode cX11_goWave 18 = .ok (.ireturn, 1) := by decide +kernel
theorem dX11_goWave_4 : decode cX11_goWave 4 = .ok (.aload_n 0, 1) := by decide +kernel
theorem dX11_goWave_5 : decode cX11_goWave 5 = .ok (.getfield 34, 3) := by decide +kernel
theorem dX11_goWave_8 : decode cX11_goWave 8 = .ok (.invokevirtual 217, 3) := by decide +kernel
theorem dX11_mend_0 : decode cX11_mend 0 = .ok (.aload_n 0, 1) := by decide +kernel
theorem dX11_mend_1 : decode cX11_mend 1 = .ok (.getfield 66, 3) := by decide +kernel
theorem dX11_mend_10 : decode cX11_mend 10 = .ok (.new 289, 3) := by decide +kernel
theorem dX11_mend_13 : decode cX11_mend 13 = .ok (.dup, 1) := by decide +kernel
theorem dX11_mend_14 : decode cX11_mend 14 = .ok (.ldc_w 345, 3) := by decide +kernel
theorem dX11_mend_17 : decode cX11_mend 17 = .ok (.invokespecial 293, 3) := by decide +kernel
theorem dX11_mend_20 : decode cX11_mend 20 = .ok (.athrow, 1) := by decide +kernel
theorem dX11_mend_21 : decode cX11_mend 21 = .ok (.aload_n 0, 1) := by decide +kernel
theorem dX11_mend_22 : decode cX11_mend 22 = .ok (.getfield 41, 3) := by decide +kernel
theorem dX11_mend_25 : decode cX11_mend 25 = .ok (.aload_n 0, 1) := by decide +kernel
theorem dX11_mend_26 : decode cX11_mend 26 = .ok (.getfield 34, 3) := by decide +kernel
theorem dX11_mend_29 : decode cX11_mend 29 = .ok (.invokevirtual 217, 3) := by decide +kernel
theorem dX11_mend_32 : decode cX11_mend 32 = .ok (.aload_n 0, 1) := by decide +kernel
theorem dX11_mend_33 : decode cX11_mend 33 = .ok (.getfield 34, 3) := by decide +kernel
theorem dX11_mend_36 : decode cX11_mend 36 = .ok (.aload_n 0, 1) := by decide +kernel
theorem dX11_mend_37 : decode cX11_mend 37 = .ok (.getfield 66, 3) := by decide +kernel
theorem dX11_mend_4 : decode cX11_mend 4 = .ok (.invokevirtual 333, 3) := by decide +kernel
theorem dX11_mend_40 : decode cX11_mend 40 = .ok (.getfield 342, 3) := by decide +kernel
theorem dX11_mend_43 : decode cX11_mend 43 = .ok (.invokevirtual 347, 3) := by decide +kernel
theorem dX11_mend_46 : decode cX11_mend 46 = .ok (.aload_n 0, 1) := by decide +kernel
theorem dX11_mend_47 : decode cX11_mend 47 = .ok (.getfield 66, 3) := by decide +kernel
theorem dX11_mend_50 : decode cX11_mend 50 = .ok (.getfield 336, 3) := by decide +kernel
theorem dX11_mend_53 : decode cX11_mend 53 = .ok (.ireturn, 1) := by decide +kernel
theorem dX11_mend_7 : decode cX11_mend 7 = .ok (.ifCond .ne 14, 3) := by decide +kernel
theorem dX11_mending_0 : decode cX11_mending 0 = .ok (.iload_n 1, 1) := by decide +kernel
theorem dX11_mending_1 : decode cX11_mending 1 = .ok (.iconst 1, 1) := by decide +kernel
theorem dX11_mending_10 : decode cX11_mending 10 = .ok (.getfield 286, 3) := by decide +kernel
theorem dX11_mending_13 : decode cX11_mending 13 = .ok (.invokestatic 330, 3) := by decide +kernel
theorem dX11_mending_16 : decode cX11_mending 16 = .ok (.aload_n 0, 1) := by decide +kernel
theorem dX11_mending_17 : decode cX11_mending 17 = .ok (.getfield 66, 3) := by decide +kernel
theorem dX11_mending_2 : decode cX11_mending 2 = .ok (.if_icmp .eq 14, 3) := by decide +kernel
theorem dX11_mending_20 : decode cX11_mending 20 = .ok (.invokevirtual 333, 3) := by decide +kernel
theorem dX11_mending_23 : decode cX11_mending 23 = .ok (.ifCond .ne 5, 3) := by decide +kernel
theorem dX11_mending_26 : decode cX11_mending 26 = .ok (.iconst (-1), 1) := by decide +kernel
theorem dX11_mending_27 : decode cX11_mending 27 = .ok (.ireturn, 1) := by decide +kernel
theorem dX11_mending_28 : decode cX11_mending 28 = .ok (.iload_n 1, 1) := by decide +kernel
theorem dX11_mending_29 : decode cX11_mending 29 = .ok (.ifCond .ne 11, 3) := by decide +kernel
theorem dX11_mending_32 : decode cX11_mending 32 = .ok (.aload_n 0, 1) := by decide +kernel
theorem dX11_mending_33 : decode cX11_mending 33 = .ok (.getfield 66, 3) := by decide +kernel
theorem dX11_mending_36 : decode cX11_mending 36 = .ok (.getfield 336, 3) := by decide +kernel
theorem dX11_mending_39 : decode cX11_mending 39 = .ok (.ireturn, 1) := by decide +kernel
theorem dX11_mending_40 : decode cX11_mending 40 = .ok (.iload_n 1, 1) := by decide +kernel
theorem dX11_mending_41 : decode cX11_mending 41 = .ok (.iconst 1, 1) := by decide +kernel
theorem dX11_mending_42 : decode cX11_mending 42 = .ok (.if_icmp .ne 13, 3) := by decide +kernel
theorem dX11_mending_45 : decode cX11_mending 45 = .ok (.aload_n 0, 1) := by decide +kernel
theorem dX11_mending_46 : decode cX11_mending 46 = .ok (.getfield 66, 3) := by decide +kernel
theorem dX11_mending_49 : decode cX11_mending 49 = .ok (.getfield 339, 3) := by decide +kernel
theorem dX11_mending_5 : decode cX11_mending 5 = .ok (.iload_n 1, 1) := by decide +kernel
theorem dX11_mending_52 : decode cX11_mending 52 = .ok (.goto 15, 3) := by decide +kernel
theorem dX11_mending_55 : decode cX11_mending 55 = .ok (.aload_n 0, 1) := by decide +kernel
theorem dX11_mending_56 : decode cX11_mending 56 = .ok (.getfield 66, 3) := by decide +kernel
theorem dX11_mending_59 : decode cX11_mending 59 = .ok (.getfield 342, 3) := by decide +kernel
theorem dX11_mending_6 : decode cX11_mending 6 = .ok (.aload_n 0, 1) := by decide +kernel
theorem dX11_mending_62 : decode cX11_mending 62 = .ok (.iload_n 1, 1) := by decide +kernel
theorem dX11_mending_63 : decode cX11_mending 63 = .ok (.bipush 10, 2) := by decide +kernel
theorem dX11_mending_65 : decode cX11_mending 65 = .ok (.isub, 1) := by decide +kernel
theorem dX11_mending_66 : decode cX11_mending 66 = .ok (.iaload, 1) := by decide +kernel
theorem dX11_mending_67 : decode cX11_mending 67 = .ok (.ireturn, 1) := by decide +kernel
theorem dX11_mending_7 : decode cX11_mending 7 = .ok (.getfield 16, 3) := by decide +kernel
theorem dX11_needWhatOrPart_0 : decode cX11_needWhatOrPart 0 = .ok (.iload_n 0, 1) := by decide +kernel
theorem dX11_needWhatOrPart_1 : decode cX11_needWhatOrPart 1 = .ok (.ifCond .eq 27, 3) := by decide +kernel
theorem dX11_needWhatOrPart_10 : decode cX11_needWhatOrPart 10 = .ok (.iload_n 0, 1) := by decide +kernel
theorem dX11_needWhatOrPart_11 : decode cX11_needWhatOrPart 11 = .ok (.bipush 10, 2) := by decide +kernel
theorem dX11_needWhatOrPart_13 : decode cX11_needWhatOrPart 13 = .ok (.iload_n 1, 1) := by decide +kernel
theorem dX11_needWhatOrPart_14 : decode cX11_needWhatOrPart 14 = .ok (.iadd, 1) := by decide +kernel
theorem dX11_needWhatOrPart_15 : decode cX11_needWhatOrPart 15 = .ok (.if_icmp .lt 13, 3) := by decide +kernel
theorem dX11_needWhatOrPart_18 : decode cX11_needWhatOrPart 18 = .ok (.new 101, 3) := by decide +kernel
theorem dX11_needWhatOrPart_21 : decode cX11_needWhatOrPart 21 = .ok (.dup, 1) := by decide +kernel
theorem dX11_needWhatOrPart_22 : decode cX11_needWhatOrPart 22 = .ok (.ldc 213, 2) := by decide +kernel
theorem dX11_needWhatOrPart_24 : decode cX11_needWhatOrPart 24 = .ok (.invokespecial 105, 3) := by decide +kernel
theorem dX11_needWhatOrPart_27 : decode cX11_needWhatOrPart 27 = .ok (.athrow, 1) := by decide +kernel
theorem dX11_needWhatOrPart_28 : decode cX11_needWhatOrPart 28 = .ok (.return_, 1) := by decide +kernel
theorem dX11_needWhatOrPart_4 : decode cX11_needWhatOrPart 4 = .ok (.iload_n 0, 1) := by decide +kernel
theorem dX11_needWhatOrPart_5 : decode cX11_needWhatOrPart 5 = .ok (.bipush 10, 2) := by decide +kernel
theorem dX11_needWhatOrPart_7 : decode cX11_needWhatOrPart 7 = .ok (.if_icmp .lt 11, 3) := by decide +kernel
theorem dX11_wave_0 : decode cX11_wave 0 = .ok (.iload_n 1, 1) := by decide +kernel
theorem dX11_wave_1 : decode cX11_wave 1 = .ok (.iconst 2, 1) := by decide +kernel
theorem dX11_wave_12 : decode cX11_wave 12 = .ok (.istore_n 2, 1) := by decide +kernel
theorem dX11_wave_13 : decode cX11_wave 13 = .ok (.aload_n 0, 1) := by decide +kernel
theorem dX11_wave_14 : decode cX11_wave 14 = .ok (.getfield 34, 3) := by decide +kernel
theorem dX11_wave_17 : decode cX11_wave 17 = .ok (.aload_n 0, 1) := by decide +kernel
theorem dX11_wave_18 : decode cX11_wave 18 = .ok (.getfield 45, 3) := by decide +kernel
theorem dX11_wave_2 : decode cX11_wave 2 = .ok (.invokestatic 252, 3) := by decide +kernel
theorem dX11_wave_21 : decode cX11_wave 21 = .ok (.iconst 0, 1) := by decide +kernel
theorem dX11_wave_22 : decode cX11_wave 22 = .ok (.invokevirtual 258, 3) := by decide +kernel
theorem dX11_wave_25 : decode cX11_wave 25 = .ok (.aload_n 0, 1) := by decide +kernel
theorem dX11_wave_26 : decode cX11_wave 26 = .ok (.getfield 80, 3) := by decide +kernel
theorem dX11_wave_29 : decode cX11_wave 29 = .ok (.invokevirtual 354, 3) := by decide +kernel
theorem dX11_wave_32 : decode cX11_wave 32 = .ok (.istore_n 3, 1) := by decide +kernel
theorem dX11_wave_33 : decode cX11_wave 33 = .ok (.aload_n 0, 1) := by decide +kernel
theorem dX11_wave_34 : decode cX11_wave 34 = .ok (.getfield 34, 3) := by decide +kernel
theorem dX11_wave_37 : decode cX11_wave 37 = .ok (.getfield 255, 3) := by decide +kernel
theorem dX11_wave_40 : decode cX11_wave 40 = .ok (.iload_n 2, 1) := by decide +kernel
theorem dX11_wave_41 : decode cX11_wave 41 = .ok (.isub, 1) := by decide +kernel
theorem dX11_wave_42 : decode cX11_wave 42 = .ok (.istore 4, 2) := by decide +kernel
theorem dX11_wave_44 : decode cX11_wave 44 = .ok (.aload_n 0, 1) := by decide +kernel
theorem dX11_wave_45 : decode cX11_wave 45 = .ok (.getfield 34, 3) := by decide +kernel
theorem dX11_wave_48 : decode cX11_wave 48 = .ok (.invokevirtual 193, 3) := by decide +kernel
theorem dX11_wave_5 : decode cX11_wave 5 = .ok (.aload_n 0, 1) := by decide +kernel
theorem dX11_wave_51 : decode cX11_wave 51 = .ok (.istore 5, 2) := by decide +kernel
theorem dX11_wave_53 : decode cX11_wave 53 = .ok (.aload_n 0, 1) := by decide +kernel
theorem dX11_wave_54 : decode cX11_wave 54 = .ok (.getfield 34, 3) := by decide +kernel
theorem dX11_wave_57 : decode cX11_wave 57 = .ok (.aload_n 0, 1) := by decide +kernel
theorem dX11_wave_58 : decode cX11_wave 58 = .ok (.getfield 45, 3) := by decide +kernel
theorem dX11_wave_6 : decode cX11_wave 6 = .ok (.getfield 34, 3) := by decide +kernel
theorem dX11_wave_61 : decode cX11_wave 61 = .ok (.iconst 0, 1) := by decide +kernel
theorem dX11_wave_62 : decode cX11_wave 62 = .ok (.invokevirtual 275, 3) := by decide +kernel
theorem dX11_wave_65 : decode cX11_wave 65 = .ok (.iload_n 1, 1) := by decide +kernel
theorem dX11_wave_66 : decode cX11_wave 66 = .ok (.ifCond .ne 5, 3) := by decide +kernel
theorem dX11_wave_69 : decode cX11_wave 69 = .ok (.iload_n 3, 1) := by decide +kernel
theorem dX11_wave_70 : decode cX11_wave 70 = .ok (.ireturn, 1) := by decide +kernel
theorem dX11_wave_71 : decode cX11_wave 71 = .ok (.iload_n 1, 1) := by decide +kernel
theorem dX11_wave_72 : decode cX11_wave 72 = .ok (.iconst 1, 1) := by decide +kernel
theorem dX11_wave_73 : decode cX11_wave 73 = .ok (.if_icmp .ne 8, 3) := by decide +kernel
theorem dX11_wave_76 : decode cX11_wave 76 = .ok (.iload 4, 2) := by decide +kernel
theorem dX11_wave_78 : decode cX11_wave 78 = .ok (.goto 5, 3) := by decide +kernel
theorem dX11_wave_81 : decode cX11_wave 81 = .ok (.iload 5, 2) := by decide +kernel
theorem dX11_wave_83 : decode cX11_wave 83 = .ok (.ireturn, 1) := by decide +kernel
theorem dX11_wave_9 : decode cX11_wave 9 = .ok (.getfield 255, 3) := by decide +kernel
theorem dX3_lesserGoes_0 : decode cX3_lesserGoes 0 = .ok (.aload_n 0, 1) := by decide +kernel
theorem dX3_lesserGoes_1 : decode cX3_lesserGoes 1 = .ok (.getfield 15, 3) := by decide +kernel
theorem dX3_lesserGoes_11 : decode cX3_lesserGoes 11 = .ok (.aload_n 0, 1) := by decide +kernel
theorem dX3_lesserGoes_12 : decode cX3_lesserGoes 12 = .ok (.getfield 15, 3) := by decide +kernel
theorem dX3_lesserGoes_15 : decode cX3_lesserGoes 15 = .ok (.iload_n 3, 1) := by decide +kernel
theorem dX3_lesserGoes_16 : decode cX3_lesserGoes 16 = .ok (.iload 4, 2) := by decide +kernel
theorem dX3_lesserGoes_18 : decode cX3_lesserGoes 18 = .ok (.invokevirtual 41, 3) := by decide +kernel
theorem dX3_lesserGoes_21 : decode cX3_lesserGoes 21 = .ok (.istore 6, 2) := by decide +kernel
theorem dX3_lesserGoes_23 : decode cX3_lesserGoes 23 = .ok (.iload 5, 2) := by decide +kernel
theorem dX3_lesserGoes_25 : decode cX3_lesserGoes 25 = .ok (.iload 6, 2) := by decide +kernel
theorem dX3_lesserGoes_27 : decode cX3_lesserGoes 27 = .ok (.if_icmp .eq 16, 3) := by decide +kernel
theorem dX3_lesserGoes_30 : decode cX3_lesserGoes 30 = .ok (.iload 5, 2) := by decide +kernel
theorem dX3_lesserGoes_32 : decode cX3_lesserGoes 32 = .ok (.iload 6, 2) := by decide +kernel
theorem dX3_lesserGoes_34 : decode cX3_lesserGoes 34 = .ok (.if_icmp .ge 7, 3) := by decide +kernel
theorem dX3_lesserGoes_37 : decode cX3_lesserGoes 37 = .ok (.iconst 1, 1) := by decide +kernel
theorem dX3_lesserGoes_38 : decode cX3_lesserGoes 38 = .ok (.goto 4, 3) := by decide +kernel
theorem dX3_lesserGoes_4 : decode cX3_lesserGoes 4 = .ok (.iload_n 1, 1) := by decide +kernel
theorem dX3_lesserGoes_41 : decode cX3_lesserGoes 41 = .ok (.iconst 0, 1) := by decide +kernel
theorem dX3_lesserGoes_42 : decode cX3_lesserGoes 42 = .ok (.ireturn, 1) := by decide +kernel
theorem dX3_lesserGoes_43 : decode cX3_lesserGoes 43 = .ok (.aload_n 0, 1) := by decide +kernel
theorem dX3_lesserGoes_44 : decode cX3_lesserGoes 44 = .ok (.getfield 9, 3) := by decide +kernel
theorem dX3_lesserGoes_47 : decode cX3_lesserGoes 47 = .ok (.getfield 44, 3) := by decide +kernel
theorem dX3_lesserGoes_5 : decode cX3_lesserGoes 5 = .ok (.iload_n 2, 1) := by decide +kernel
theorem dX3_lesserGoes_50 : decode cX3_lesserGoes 50 = .ok (.aload_n 0, 1) := by decide +kernel
theorem dX3_lesserGoes_51 : decode cX3_lesserGoes 51 = .ok (.getfield 15, 3) := by decide +kernel
theorem dX3_lesserGoes_54 : decode cX3_lesserGoes 54 = .ok (.getfield 50, 3) := by decide +kernel
theorem dX3_lesserGoes_57 : decode cX3_lesserGoes 57 = .ok (.iload_n 1, 1) := by decide +kernel
theorem dX3_lesserGoes_58 : decode cX3_lesserGoes 58 = .ok (.iaload, 1) := by decide +kernel
theorem dX3_lesserGoes_59 : decode cX3_lesserGoes 59 = .ok (.invokevirtual 54, 3) := by decide +kernel
theorem dX3_lesserGoes_6 : decode cX3_lesserGoes 6 = .ok (.invokevirtual 41, 3) := by decide +kernel
theorem dX3_lesserGoes_62 : decode cX3_lesserGoes 62 = .ok (.ifCond .eq 29, 3) := by decide +kernel
theorem dX3_lesserGoes_65 : decode cX3_lesserGoes 65 = .ok (.aload_n 0, 1) := by decide +kernel
theorem dX3_lesserGoes_66 : decode cX3_lesserGoes 66 = .ok (.getfield 9, 3) := by decide +kernel
theorem dX3_lesserGoes_69 : decode cX3_lesserGoes 69 = .ok (.getfield 44, 3) := by decide +kernel
theorem dX3_lesserGoes_72 : decode cX3_lesserGoes 72 = .ok (.aload_n 0, 1) := by decide +kernel
theorem dX3_lesserGoes_73 : decode cX3_lesserGoes 73 = .ok (.getfield 15, 3) := by decide +kernel
theorem dX3_lesserGoes_76 : decode cX3_lesserGoes 76 = .ok (.getfield 50, 3) := by decide +kernel
theorem dX3_lesserGoes_79 : decode cX3_lesserGoes 79 = .ok (.iload_n 3, 1) := by decide +kernel
theorem dX3_lesserGoes_80 : decode cX3_lesserGoes 80 = .ok (.iaload, 1) := by decide +kernel
theorem dX3_lesserGoes_81 : decode cX3_lesserGoes 81 = .ok (.invokevirtual 54, 3) := by decide +kernel
theorem dX3_lesserGoes_84 : decode cX3_lesserGoes 84 = .ok (.ifCond .ne 7, 3) := by decide +kernel
theorem dX3_lesserGoes_87 : decode cX3_lesserGoes 87 = .ok (.iconst 1, 1) := by decide +kernel
theorem dX3_lesserGoes_88 : decode cX3_lesserGoes 88 = .ok (.goto 4, 3) := by decide +kernel
theorem dX3_lesserGoes_9 : decode cX3_lesserGoes 9 = .ok (.istore 5, 2) := by decide +kernel
theorem dX3_lesserGoes_91 : decode cX3_lesserGoes 91 = .ok (.iconst 0, 1) := by decide +kernel
theorem dX3_lesserGoes_92 : decode cX3_lesserGoes 92 = .ok (.ireturn, 1) := by decide +kernel
theorem dX3_oneGivesWay_0 : decode cX3_oneGivesWay 0 = .ok (.aload_n 0, 1) := by decide +kernel
theorem dX3_oneGivesWay_1 : decode cX3_oneGivesWay 1 = .ok (.iload_n 1, 1) := by decide +kernel
theorem dX3_oneGivesWay_11 : decode cX3_oneGivesWay 11 = .ok (.istore 4, 2) := by decide +kernel
theorem dX3_oneGivesWay_13 : decode cX3_oneGivesWay 13 = .ok (.iload_n 3, 1) := by decide +kernel
theorem dX3_oneGivesWay_14 : decode cX3_oneGivesWay 14 = .ok (.iconst (-1), 1) := by decide +kernel
theorem dX3_oneGivesWay_15 : decode cX3_oneGivesWay 15 = .ok (.if_icmp .ne 11, 3) := by decide +kernel
theorem dX3_oneGivesWay_18 : decode cX3_oneGivesWay 18 = .ok (.iload 4, 2) := by decide +kernel
theorem dX3_oneGivesWay_2 : decode cX3_oneGivesWay 2 = .ok (.invokevirtual 29, 3) := by decide +kernel
theorem dX3_oneGivesWay_20 : decode cX3_oneGivesWay 20 = .ok (.iconst (-1), 1) := by decide +kernel
theorem dX3_oneGivesWay_21 : decode cX3_oneGivesWay 21 = .ok (.if_icmp .ne 5, 3) := by decide +kernel
theorem dX3_oneGivesWay_24 : decode cX3_oneGivesWay 24 = .ok (.iconst 0, 1) := by decide +kernel
theorem dX3_oneGivesWay_25 : decode cX3_oneGivesWay 25 = .ok (.ireturn, 1) := by decide +kernel
theorem dX3_oneGivesWay_26 : decode cX3_oneGivesWay 26 = .ok (.iload 4, 2) := by decide +kernel
theorem dX3_oneGivesWay_28 : decode cX3_oneGivesWay 28 = .ok (.iconst (-1), 1) := by decide +kernel
theorem dX3_oneGivesWay_29 : decode cX3_oneGivesWay 29 = .ok (.if_icmp .eq 20, 3) := by decide +kernel
theorem dX3_oneGivesWay_32 : decode cX3_oneGivesWay 32 = .ok (.iload_n 3, 1) := by decide +kernel
theorem dX3_oneGivesWay_33 : decode cX3_oneGivesWay 33 = .ok (.iconst (-1), 1) := by decide +kernel
theorem dX3_oneGivesWay_34 : decode cX3_oneGivesWay 34 = .ok (.if_icmp .eq 28, 3) := by decide +kernel
theorem dX3_oneGivesWay_37 : decode cX3_oneGivesWay 37 = .ok (.aload_n 0, 1) := by decide +kernel
theorem dX3_oneGivesWay_38 : decode cX3_oneGivesWay 38 = .ok (.iload_n 1, 1) := by decide +kernel
theorem dX3_oneGivesWay_39 : decode cX3_oneGivesWay 39 = .ok (.iload_n 3, 1) := by decide +kernel
theorem dX3_oneGivesWay_40 : decode cX3_oneGivesWay 40 = .ok (.iload_n 2, 1) := by decide +kernel
theorem dX3_oneGivesWay_41 : decode cX3_oneGivesWay 41 = .ok (.iload 4, 2) := by decide +kernel
theorem dX3_oneGivesWay_43 : decode cX3_oneGivesWay 43 = .ok (.invokevirtual 33, 3) := by decide +kernel
theorem dX3_oneGivesWay_46 : decode cX3_oneGivesWay 46 = .ok (.ifCond .eq 16, 3) := by decide +kernel
theorem dX3_oneGivesWay_49 : decode cX3_oneGivesWay 49 = .ok (.aload_n 0, 1) := by decide +kernel
theorem dX3_oneGivesWay_5 : decode cX3_oneGivesWay 5 = .ok (.istore_n 3, 1) := by decide +kernel
theorem dX3_oneGivesWay_50 : decode cX3_oneGivesWay 50 = .ok (.getfield 15, 3) := by decide +kernel
theorem dX3_oneGivesWay_53 : decode cX3_oneGivesWay 53 = .ok (.iload_n 1, 1) := by decide +kernel
theorem dX3_oneGivesWay_54 : decode cX3_oneGivesWay 54 = .ok (.iload_n 3, 1) := by decide +kernel
theorem dX3_oneGivesWay_55 : decode cX3_oneGivesWay 55 = .ok (.invokevirtual 37, 3) := by decide +kernel
theorem dX3_oneGivesWay_58 : decode cX3_oneGivesWay 58 = .ok (.pop, 1) := by decide +kernel
theorem dX3_oneGivesWay_59 : decode cX3_oneGivesWay 59 = .ok (.goto 14, 3) := by decide +kernel
theorem dX3_oneGivesWay_6 : decode cX3_oneGivesWay 6 = .ok (.aload_n 0, 1) := by decide +kernel
theorem dX3_oneGivesWay_62 : decode cX3_oneGivesWay 62 = .ok (.aload_n 0, 1) := by decide +kernel
theorem dX3_oneGivesWay_63 : decode cX3_oneGivesWay 63 = .ok (.getfield 15, 3) := by decide +kernel
theorem dX3_oneGivesWay_66 : decode cX3_oneGivesWay 66 = .ok (.iload_n 2, 1) := by decide +kernel
theorem dX3_oneGivesWay_67 : decode cX3_oneGivesWay 67 = .ok (.iload 4, 2) := by decide +kernel
theorem dX3_oneGivesWay_69 : decode cX3_oneGivesWay 69 = .ok (.invokevirtual 37, 3) := by decide +kernel
theorem dX3_oneGivesWay_7 : decode cX3_oneGivesWay 7 = .ok (.iload_n 2, 1) := by decide +kernel
theorem dX3_oneGivesWay_72 : decode cX3_oneGivesWay 72 = .ok (.pop, 1) := by decide +kernel
theorem dX3_oneGivesWay_73 : decode cX3_oneGivesWay 73 = .ok (.iconst 1, 1) := by decide +kernel
theorem dX3_oneGivesWay_74 : decode cX3_oneGivesWay 74 = .ok (.ireturn, 1) := by decide +kernel
theorem dX3_oneGivesWay_8 : decode cX3_oneGivesWay 8 = .ok (.invokevirtual 29, 3) := by decide +kernel
theorem dX3_refugeOf_0 : decode cX3_refugeOf 0 = .ok (.iconst (-1), 1) := by decide +kernel
theorem dX3_refugeOf_1 : decode cX3_refugeOf 1 = .ok (.istore_n 2, 1) := by decide +kernel
theorem dX3_refugeOf_12 : decode cX3_refugeOf 12 = .ok (.if_icmp .ge 61, 3) := by decide +kernel
theorem dX3_refugeOf_15 : decode cX3_refugeOf 15 = .ok (.aload_n 0, 1) := by decide +kernel
theorem dX3_refugeOf_16 : decode cX3_refugeOf 16 = .ok (.getfield 15, 3) := by decide +kernel
theorem dX3_refugeOf_19 : decode cX3_refugeOf 19 = .ok (.iload_n 1, 1) := by decide +kernel
theorem dX3_refugeOf_2 : decode cX3_refugeOf 2 = .ok (.iconst 0, 1) := by decide +kernel
theorem dX3_refugeOf_20 : decode cX3_refugeOf 20 = .ok (.iload_n 3, 1) := by decide +kernel
theorem dX3_refugeOf_21 : decode cX3_refugeOf 21 = .ok (.invokevirtual 64, 3) := by decide +kernel
theorem dX3_refugeOf_24 : decode cX3_refugeOf 24 = .ok (.ifCond .ne 43, 3) := by decide +kernel
theorem dX3_refugeOf_27 : decode cX3_refugeOf 27 = .ok (.aload_n 0, 1) := by decide +kernel
theorem dX3_refugeOf_28 : decode cX3_refugeOf 28 = .ok (.getfield 15, 3) := by decide +kernel
theorem dX3_refugeOf_3 : decode cX3_refugeOf 3 = .ok (.istore_n 3, 1) := by decide +kernel
theorem dX3_refugeOf_31 : decode cX3_refugeOf 31 = .ok (.iload_n 1, 1) := by decide +kernel
theorem dX3_refugeOf_32 : decode cX3_refugeOf 32 = .ok (.iload_n 3, 1) := by decide +kernel
theorem dX3_refugeOf_33 : decode cX3_refugeOf 33 = .ok (.invokevirtual 67, 3) := by decide +kernel
theorem dX3_refugeOf_36 : decode cX3_refugeOf 36 = .ok (.ifCond .ne 31, 3) := by decide +kernel
theorem dX3_refugeOf_39 : decode cX3_refugeOf 39 = .ok (.iload_n 2, 1) := by decide +kernel
theorem dX3_refugeOf_4 : decode cX3_refugeOf 4 = .ok (.iload_n 3, 1) := by decide +kernel
theorem dX3_refugeOf_40 : decode cX3_refugeOf 40 = .ok (.iconst (-1), 1) := by decide +kernel
theorem dX3_refugeOf_41 : decode cX3_refugeOf 41 = .ok (.if_icmp .eq 24, 3) := by decide +kernel
theorem dX3_refugeOf_44 : decode cX3_refugeOf 44 = .ok (.aload_n 0, 1) := by decide +kernel
theorem dX3_refugeOf_45 : decode cX3_refugeOf 45 = .ok (.getfield 15, 3) := by decide +kernel
theorem dX3_refugeOf_48 : decode cX3_refugeOf 48 = .ok (.iload_n 1, 1) := by decide +kernel
theorem dX3_refugeOf_49 : decode cX3_refugeOf 49 = .ok (.iload_n 3, 1) := by decide +kernel
theorem dX3_refugeOf_5 : decode cX3_refugeOf 5 = .ok (.aload_n 0, 1) := by decide +kernel
theorem dX3_refugeOf_50 : decode cX3_refugeOf 50 = .ok (.invokevirtual 41, 3) := by decide +kernel
theorem dX3_refugeOf_53 : decode cX3_refugeOf 53 = .ok (.aload_n 0, 1) := by decide +kernel
theorem dX3_refugeOf_54 : decode cX3_refugeOf 54 = .ok (.getfield 15, 3) := by decide +kernel
theorem dX3_refugeOf_57 : decode cX3_refugeOf 57 = .ok (.iload_n 1, 1) := by decide +kernel
theorem dX3_refugeOf_58 : decode cX3_refugeOf 58 = .ok (.iload_n 2, 1) := by decide +kernel
theorem dX3_refugeOf_59 : decode cX3_refugeOf 59 = .ok (.invokevirtual 41, 3) := by decide +kernel
theorem dX3_refugeOf_6 : decode cX3_refugeOf 6 = .ok (.getfield 9, 3) := by decide +kernel
theorem dX3_refugeOf_62 : decode cX3_refugeOf 62 = .ok (.if_icmp .ge 5, 3) := by decide +kernel
theorem dX3_refugeOf_65 : decode cX3_refugeOf 65 = .ok (.iload_n 3, 1) := by decide +kernel
theorem dX3_refugeOf_66 : decode cX3_refugeOf 66 = .ok (.istore_n 2, 1) := by decide +kernel
theorem dX3_refugeOf_67 : decode cX3_refugeOf 67 = .ok (.iinc 3 1, 3) := by decide +kernel
theorem dX3_refugeOf_70 : decode cX3_refugeOf 70 = .ok (.goto (-66), 3) := by decide +kernel
theorem dX3_refugeOf_73 : decode cX3_refugeOf 73 = .ok (.iload_n 2, 1) := by decide +kernel
theorem dX3_refugeOf_74 : decode cX3_refugeOf 74 = .ok (.ireturn, 1) := by decide +kernel
theorem dX3_refugeOf_9 : decode cX3_refugeOf 9 = .ok (.getfield 60, 3) := by decide +kernel
theorem dX3_runWave_0 : decode cX3_runWave 0 = .ok (.iconst 0, 1) := by decide +kernel
theorem dX3_runWave_1 : decode cX3_runWave 1 = .ok (.istore_n 1, 1) := by decide +kernel
theorem dX3_runWave_12 : decode cX3_runWave 12 = .ok (.invokevirtual 19, 3) := by decide +kernel
theorem dX3_runWave_15 : decode cX3_runWave 15 = .ok (.istore_n 2, 1) := by decide +kernel
theorem dX3_runWave_16 : decode cX3_runWave 16 = .ok (.iload_n 2, 1) := by decide +kernel
theorem dX3_runWave_17 : decode cX3_runWave 17 = .ok (.iconst (-1), 1) := by decide +kernel
theorem dX3_runWave_18 : decode cX3_runWave 18 = .ok (.if_icmp .eq 18, 3) := by decide +kernel
theorem dX3_runWave_2 : decode cX3_runWave 2 = .ok (.iload_n 1, 1) := by decide +kernel
theorem dX3_runWave_21 : decode cX3_runWave 21 = .ok (.aload_n 0, 1) := by decide +kernel
theorem dX3_runWave_22 : decode cX3_runWave 22 = .ok (.iload_n 2, 1) := by decide +kernel
theorem dX3_runWave_23 : decode cX3_runWave 23 = .ok (.bipush 10, 2) := by decide +kernel
theorem dX3_runWave_25 : decode cX3_runWave 25 = .ok (.idiv, 1) := by decide +kernel
theorem dX3_runWave_26 : decode cX3_runWave 26 = .ok (.iload_n 2, 1) := by decide +kernel
theorem dX3_runWave_27 : decode cX3_runWave 27 = .ok (.bipush 10, 2) := by decide +kernel
theorem dX3_runWave_29 : decode cX3_runWave 29 = .ok (.irem, 1) := by decide +kernel
theorem dX3_runWave_3 : decode cX3_runWave 3 = .ok (.bipush 50, 2) := by decide +kernel
theorem dX3_runWave_30 : decode cX3_runWave 30 = .ok (.invokevirtual 25, 3) := by decide +kernel
theorem dX3_runWave_33 : decode cX3_runWave 33 = .ok (.ifCond .ne 5, 3) := by decide +kernel
theorem dX3_runWave_36 : decode cX3_runWave 36 = .ok (.iload_n 1, 1) := by decide +kernel
theorem dX3_runWave_37 : decode cX3_runWave 37 = .ok (.ireturn, 1) := by decide +kernel
theorem dX3_runWave_38 : decode cX3_runWave 38 = .ok (.iinc 1 1, 3) := by decide +kernel
theorem dX3_runWave_41 : decode cX3_runWave 41 = .ok (.goto (-39), 3) := by decide +kernel
theorem dX3_runWave_44 : decode cX3_runWave 44 = .ok (.bipush 50, 2) := by decide +kernel
theorem dX3_runWave_46 : decode cX3_runWave 46 = .ok (.ireturn, 1) := by decide +kernel
theorem dX3_runWave_5 : decode cX3_runWave 5 = .ok (.if_icmp .ge 39, 3) := by decide +kernel
theorem dX3_runWave_8 : decode cX3_runWave 8 = .ok (.aload_n 0, 1) := by decide +kernel
theorem dX3_runWave_9 : decode cX3_runWave 9 = .ok (.getfield 15, 3) := by decide +kernel
theorem dX5_driven_0 : decode cX5_driven 0 = .ok (.iconst 0, 1) := by decide +kernel
theorem dX5_driven_1 : decode cX5_driven 1 = .ok (.istore_n 2, 1) := by decide +kernel
theorem dX5_driven_12 : decode cX5_driven 12 = .ok (.if_icmp .ge 43, 3) := by decide +kernel
theorem dX5_driven_15 : decode cX5_driven 15 = .ok (.iload_n 2, 1) := by decide +kernel
theorem dX5_driven_16 : decode cX5_driven 16 = .ok (.aload_n 0, 1) := by decide +kernel
theorem dX5_driven_17 : decode cX5_driven 17 = .ok (.getfield 9, 3) := by decide +kernel
theorem dX5_driven_2 : decode cX5_driven 2 = .ok (.iload_n 1, 1) := by decide +kernel
theorem dX5_driven_20 : decode cX5_driven 20 = .ok (.iload_n 1, 1) := by decide +kernel
theorem dX5_driven_21 : decode cX5_driven 21 = .ok (.bipush 8, 2) := by decide +kernel
theorem dX5_driven_23 : decode cX5_driven 23 = .ok (.imul, 1) := by decide +kernel
theorem dX5_driven_24 : decode cX5_driven 24 = .ok (.iload_n 3, 1) := by decide +kernel
theorem dX5_driven_25 : decode cX5_driven 25 = .ok (.iadd, 1) := by decide +kernel
theorem dX5_driven_26 : decode cX5_driven 26 = .ok (.iaload, 1) := by decide +kernel
theorem dX5_driven_27 : decode cX5_driven 27 = .ok (.aload_n 0, 1) := by decide +kernel
theorem dX5_driven_28 : decode cX5_driven 28 = .ok (.getfield 25, 3) := by decide +kernel
theorem dX5_driven_3 : decode cX5_driven 3 = .ok (.istore_n 3, 1) := by decide +kernel
theorem dX5_driven_31 : decode cX5_driven 31 = .ok (.getfield 74, 3) := by decide +kernel
theorem dX5_driven_34 : decode cX5_driven 34 = .ok (.iload_n 3, 1) := by decide +kernel
theorem dX5_driven_35 : decode cX5_driven 35 = .ok (.iaload, 1) := by decide +kernel
theorem dX5_driven_36 : decode cX5_driven 36 = .ok (.invokestatic 46, 3) := by decide +kernel
theorem dX5_driven_39 : decode cX5_driven 39 = .ok (.ifCond .eq 7, 3) := by decide +kernel
theorem dX5_driven_4 : decode cX5_driven 4 = .ok (.iload_n 3, 1) := by decide +kernel
theorem dX5_driven_42 : decode cX5_driven 42 = .ok (.iconst 0, 1) := by decide +kernel
theorem dX5_driven_43 : decode cX5_driven 43 = .ok (.goto 4, 3) := by decide +kernel
theorem dX5_driven_46 : decode cX5_driven 46 = .ok (.iconst 1, 1) := by decide +kernel
theorem dX5_driven_47 : decode cX5_driven 47 = .ok (.iadd, 1) := by decide +kernel
theorem dX5_driven_48 : decode cX5_driven 48 = .ok (.istore_n 2, 1) := by decide +kernel
theorem dX5_driven_49 : decode cX5_driven 49 = .ok (.iinc 3 1, 3) := by decide +kernel
theorem dX5_driven_5 : decode cX5_driven 5 = .ok (.aload_n 0, 1) := by decide +kernel
theorem dX5_driven_52 : decode cX5_driven 52 = .ok (.goto (-48), 3) := by decide +kernel
theorem dX5_driven_55 : decode cX5_driven 55 = .ok (.iload_n 2, 1) := by decide +kernel
theorem dX5_driven_56 : decode cX5_driven 56 = .ok (.ireturn, 1) := by decide +kernel
theorem dX5_driven_6 : decode cX5_driven 6 = .ok (.getfield 21, 3) := by decide +kernel
theorem dX5_driven_9 : decode cX5_driven 9 = .ok (.getfield 37, 3) := by decide +kernel
theorem dX5_findNearest_0 : decode cX5_findNearest 0 = .ok (.aload_n 0, 1) := by decide +kernel
theorem dX5_findNearest_1 : decode cX5_findNearest 1 = .ok (.invokevirtual 29, 3) := by decide +kernel
theorem dX5_findNearest_11 : decode cX5_findNearest 11 = .ok (.iconst 0, 1) := by decide +kernel
theorem dX5_findNearest_12 : decode cX5_findNearest 12 = .ok (.istore_n 2, 1) := by decide +kernel
theorem dX5_findNearest_13 : decode cX5_findNearest 13 = .ok (.iload_n 2, 1) := by decide +kernel
theorem dX5_findNearest_14 : decode cX5_findNearest 14 = .ok (.aload_n 0, 1) := by decide +kernel
theorem dX5_findNearest_15 : decode cX5_findNearest 15 = .ok (.getfield 21, 3) := by decide +kernel
theorem dX5_findNearest_18 : decode cX5_findNearest 18 = .ok (.getfield 37, 3) := by decide +kernel
theorem dX5_findNearest_21 : decode cX5_findNearest 21 = .ok (.if_icmp .gt 36, 3) := by decide +kernel
theorem dX5_findNearest_24 : decode cX5_findNearest 24 = .ok (.iload_n 1, 1) := by decide +kernel
theorem dX5_findNearest_25 : decode cX5_findNearest 25 = .ok (.ifCond .eq 32, 3) := by decide +kernel
theorem dX5_findNearest_28 : decode cX5_findNearest 28 = .ok (.aload_n 0, 1) := by decide +kernel
theorem dX5_findNearest_29 : decode cX5_findNearest 29 = .ok (.iconst 0, 1) := by decide +kernel
theorem dX5_findNearest_30 : decode cX5_findNearest 30 = .ok (.iload_n 2, 1) := by decide +kernel
theorem dX5_findNearest_31 : decode cX5_findNearest 31 = .ok (.iconst 0, 1) := by decide +kernel
theorem dX5_findNearest_32 : decode cX5_findNearest 32 = .ok (.invokevirtual 57, 3) := by decide +kernel
theorem dX5_findNearest_35 : decode cX5_findNearest 35 = .ok (.aload_n 0, 1) := by decide +kernel
theorem dX5_findNearest_36 : decode cX5_findNearest 36 = .ok (.getfield 54, 3) := by decide +kernel
theorem dX5_findNearest_39 : decode cX5_findNearest 39 = .ok (.ldc 53, 2) := by decide +kernel
theorem dX5_findNearest_4 : decode cX5_findNearest 4 = .ok (.istore_n 1, 1) := by decide +kernel
theorem dX5_findNearest_41 : decode cX5_findNearest 41 = .ok (.if_icmp .eq 10, 3) := by decide +kernel
theorem dX5_findNearest_44 : decode cX5_findNearest 44 = .ok (.aload_n 0, 1) := by decide +kernel
theorem dX5_findNearest_45 : decode cX5_findNearest 45 = .ok (.iload_n 2, 1) := by decide +kernel
theorem dX5_findNearest_46 : decode cX5_findNearest 46 = .ok (.putfield 61, 3) := by decide +kernel
theorem dX5_findNearest_49 : decode cX5_findNearest 49 = .ok (.iconst 1, 1) := by decide +kernel
theorem dX5_findNearest_5 : decode cX5_findNearest 5 = .ok (.aload_n 0, 1) := by decide +kernel
theorem dX5_findNearest_50 : decode cX5_findNearest 50 = .ok (.ireturn, 1) := by decide +kernel
theorem dX5_findNearest_51 : decode cX5_findNearest 51 = .ok (.iinc 2 1, 3) := by decide +kernel
theorem dX5_findNearest_54 : decode cX5_findNearest 54 = .ok (.goto (-41), 3) := by decide +kernel
theorem dX5_findNearest_57 : decode cX5_findNearest 57 = .ok (.iconst 0, 1) := by decide +kernel
theorem dX5_findNearest_58 : decode cX5_findNearest 58 = .ok (.ireturn, 1) := by decide +kernel
theorem dX5_findNearest_6 : decode cX5_findNearest 6 = .ok (.ldc 53, 2) := by decide +kernel
theorem dX5_findNearest_8 : decode cX5_findNearest 8 = .ok (.putfield 54, 3) := by decide +kernel
theorem dX5_seek_0 : decode cX5_seek 0 = .ok (.iload_n 3, 1) := by decide +kernel
theorem dX5_seek_1 : decode cX5_seek 1 = .ok (.aload_n 0, 1) := by decide +kernel
theorem dX5_seek_10 : decode cX5_seek 10 = .ok (.invokevirtual 128, 3) := by decide +kernel
theorem dX5_seek_102 : decode cX5_seek 102 = .ok (.iload 5, 2) := by decide +kernel
theorem dX5_seek_104 : decode cX5_seek 104 = .ok (.iload 6, 2) := by decide +kernel
theorem dX5_seek_106 : decode cX5_seek 106 = .ok (.invokestatic 46, 3) := by decide +kernel
theorem dX5_seek_109 : decode cX5_seek 109 = .ok (.ifCond .eq 61, 3) := by decide +kernel
theorem dX5_seek_112 : decode cX5_seek 112 = .ok (.aload_n 0, 1) := by decide +kernel
theorem dX5_seek_113 : decode cX5_seek 113 = .ok (.getfield 21, 3) := by decide +kernel
theorem dX5_seek_116 : decode cX5_seek 116 = .ok (.iload 4, 2) := by decide +kernel
theorem dX5_seek_118 : decode cX5_seek 118 = .ok (.iload 6, 2) := by decide +kernel
theorem dX5_seek_120 : decode cX5_seek 120 = .ok (.invokevirtual 137, 3) := by decide +kernel
theorem dX5_seek_123 : decode cX5_seek 123 = .ok (.iconst (-1), 1) := by decide +kernel
theorem dX5_seek_124 : decode cX5_seek 124 = .ok (.if_icmp .eq 46, 3) := by decide +kernel
theorem dX5_seek_127 : decode cX5_seek 127 = .ok (.aload_n 0, 1) := by decide +kernel
theorem dX5_seek_128 : decode cX5_seek 128 = .ok (.iload_n 1, 1) := by decide +kernel
theorem dX5_seek_129 : decode cX5_seek 129 = .ok (.iload 6, 2) := by decide +kernel
theorem dX5_seek_13 : decode cX5_seek 13 = .ok (.iload_n 2, 1) := by decide +kernel
theorem dX5_seek_131 : decode cX5_seek 131 = .ok (.invokevirtual 50, 3) := by decide +kernel
theorem dX5_seek_134 : decode cX5_seek 134 = .ok (.ifCond .eq 36, 3) := by decide +kernel
theorem dX5_seek_137 : decode cX5_seek 137 = .ok (.aload_n 0, 1) := by decide +kernel
theorem dX5_seek_138 : decode cX5_seek 138 = .ok (.iload_n 1, 1) := by decide +kernel
theorem dX5_seek_139 : decode cX5_seek 139 = .ok (.iconst 1, 1) := by decide +kernel
theorem dX5_seek_14 : decode cX5_seek 14 = .ok (.if_icmp .le 4, 3) := by decide +kernel
theorem dX5_seek_140 : decode cX5_seek 140 = .ok (.iadd, 1) := by decide +kernel
theorem dX5_seek_141 : decode cX5_seek 141 = .ok (.iload 6, 2) := by decide +kernel
theorem dX5_seek_143 : decode cX5_seek 143 = .ok (.iload 4, 2) := by decide +kernel
theorem dX5_seek_145 : decode cX5_seek 145 = .ok (.if_icmp .ne 7, 3) := by decide +kernel
theorem dX5_seek_148 : decode cX5_seek 148 = .ok (.iload_n 2, 1) := by decide +kernel
theorem dX5_seek_149 : decode cX5_seek 149 = .ok (.goto 6, 3) := by decide +kernel
theorem dX5_seek_152 : decode cX5_seek 152 = .ok (.iload_n 2, 1) := by decide +kernel
theorem dX5_seek_153 : decode cX5_seek 153 = .ok (.iconst 1, 1) := by decide +kernel
theorem dX5_seek_154 : decode cX5_seek 154 = .ok (.isub, 1) := by decide +kernel
theorem dX5_seek_155 : decode cX5_seek 155 = .ok (.iload_n 3, 1) := by decide +kernel
theorem dX5_seek_156 : decode cX5_seek 156 = .ok (.aload_n 0, 1) := by decide +kernel
theorem dX5_seek_157 : decode cX5_seek 157 = .ok (.getfield 25, 3) := by decide +kernel
theorem dX5_seek_160 : decode cX5_seek 160 = .ok (.iload_n 1, 1) := by decide +kernel
theorem dX5_seek_161 : decode cX5_seek 161 = .ok (.iload 6, 2) := by decide +kernel
theorem dX5_seek_163 : decode cX5_seek 163 = .ok (.invokevirtual 140, 3) := by decide +kernel
theorem dX5_seek_166 : decode cX5_seek 166 = .ok (.iadd, 1) := by decide +kernel
theorem dX5_seek_167 : decode cX5_seek 167 = .ok (.invokevirtual 57, 3) := by decide +kernel
theorem dX5_seek_17 : decode cX5_seek 17 = .ok (.return_, 1) := by decide +kernel
theorem dX5_seek_170 : decode cX5_seek 170 = .ok (.iinc 6 1, 3) := by decide +kernel
theorem dX5_seek_173 : decode cX5_seek 173 = .ok (.goto (-83), 3) := by decide +kernel
theorem dX5_seek_176 : decode cX5_seek 176 = .ok (.return_, 1) := by decide +kernel
theorem dX5_seek_18 : decode cX5_seek 18 = .ok (.iload_n 1, 1) := by decide +kernel
theorem dX5_seek_19 : decode cX5_seek 19 = .ok (.aload_n 0, 1) := by decide +kernel
theorem dX5_seek_2 : decode cX5_seek 2 = .ok (.getfield 54, 3) := by decide +kernel
theorem dX5_seek_20 : decode cX5_seek 20 = .ok (.getfield 21, 3) := by decide +kernel
theorem dX5_seek_23 : decode cX5_seek 23 = .ok (.getfield 37, 3) := by decide +kernel
theorem dX5_seek_26 : decode cX5_seek 26 = .ok (.if_icmp .lt 24, 3) := by decide +kernel
theorem dX5_seek_29 : decode cX5_seek 29 = .ok (.aload_n 0, 1) := by decide +kernel
theorem dX5_seek_30 : decode cX5_seek 30 = .ok (.iload_n 3, 1) := by decide +kernel
theorem dX5_seek_31 : decode cX5_seek 31 = .ok (.putfield 54, 3) := by decide +kernel
theorem dX5_seek_34 : decode cX5_seek 34 = .ok (.aload_n 0, 1) := by decide +kernel
theorem dX5_seek_35 : decode cX5_seek 35 = .ok (.getfield 15, 3) := by decide +kernel
theorem dX5_seek_38 : decode cX5_seek 38 = .ok (.iconst 0, 1) := by decide +kernel
theorem dX5_seek_39 : decode cX5_seek 39 = .ok (.aload_n 0, 1) := by decide +kernel
theorem dX5_seek_40 : decode cX5_seek 40 = .ok (.getfield 18, 3) := by decide +kernel
theorem dX5_seek_43 : decode cX5_seek 43 = .ok (.iconst 0, 1) := by decide +kernel
theorem dX5_seek_44 : decode cX5_seek 44 = .ok (.bipush 8, 2) := by decide +kernel
theorem dX5_seek_46 : decode cX5_seek 46 = .ok (.invokestatic 131, 3) := by decide +kernel
theorem dX5_seek_49 : decode cX5_seek 49 = .ok (.return_, 1) := by decide +kernel
theorem dX5_seek_5 : decode cX5_seek 5 = .ok (.if_icmp .ge 12, 3) := by decide +kernel
theorem dX5_seek_50 : decode cX5_seek 50 = .ok (.aload_n 0, 1) := by decide +kernel
theorem dX5_seek_51 : decode cX5_seek 51 = .ok (.getfield 25, 3) := by decide +kernel
theorem dX5_seek_54 : decode cX5_seek 54 = .ok (.getfield 74, 3) := by decide +kernel
theorem dX5_seek_57 : decode cX5_seek 57 = .ok (.iload_n 1, 1) := by decide +kernel
theorem dX5_seek_58 : decode cX5_seek 58 = .ok (.iaload, 1) := by decide +kernel
theorem dX5_seek_59 : decode cX5_seek 59 = .ok (.istore 4, 2) := by decide +kernel
theorem dX5_seek_61 : decode cX5_seek 61 = .ok (.aload_n 0, 1) := by decide +kernel
theorem dX5_seek_62 : decode cX5_seek 62 = .ok (.getfield 9, 3) := by decide +kernel
theorem dX5_seek_65 : decode cX5_seek 65 = .ok (.iload_n 1, 1) := by decide +kernel
theorem dX5_seek_66 : decode cX5_seek 66 = .ok (.bipush 8, 2) := by decide +kernel
theorem dX5_seek_68 : decode cX5_seek 68 = .ok (.imul, 1) := by decide +kernel
theorem dX5_seek_69 : decode cX5_seek 69 = .ok (.iload_n 1, 1) := by decide +kernel
theorem dX5_seek_70 : decode cX5_seek 70 = .ok (.iadd, 1) := by decide +kernel
theorem dX5_seek_71 : decode cX5_seek 71 = .ok (.iaload, 1) := by decide +kernel
theorem dX5_seek_72 : decode cX5_seek 72 = .ok (.istore 5, 2) := by decide +kernel
theorem dX5_seek_74 : decode cX5_seek 74 = .ok (.iload_n 2, 1) := by decide +kernel
theorem dX5_seek_75 : decode cX5_seek 75 = .ok (.ifCond .ne 12, 3) := by decide +kernel
theorem dX5_seek_78 : decode cX5_seek 78 = .ok (.iload 5, 2) := by decide +kernel
theorem dX5_seek_8 : decode cX5_seek 8 = .ok (.aload_n 0, 1) := by decide +kernel
theorem dX5_seek_80 : decode cX5_seek 80 = .ok (.iconst 1, 1) := by decide +kernel
theorem dX5_seek_81 : decode cX5_seek 81 = .ok (.iload 4, 2) := by decide +kernel
theorem dX5_seek_83 : decode cX5_seek 83 = .ok (.ishl, 1) := by decide +kernel
theorem dX5_seek_84 : decode cX5_seek 84 = .ok (.iand, 1) := by decide +kernel
theorem dX5_seek_85 : decode cX5_seek 85 = .ok (.istore 5, 2) := by decide +kernel
theorem dX5_seek_87 : decode cX5_seek 87 = .ok (.iconst 0, 1) := by decide +kernel
theorem dX5_seek_88 : decode cX5_seek 88 = .ok (.istore 6, 2) := by decide +kernel
theorem dX5_seek_9 : decode cX5_seek 9 = .ok (.iload_n 1, 1) := by decide +kernel
theorem dX5_seek_90 : decode cX5_seek 90 = .ok (.iload 6, 2) := by decide +kernel
theorem dX5_seek_92 : decode cX5_seek 92 = .ok (.aload_n 0, 1) := by decide +kernel
theorem dX5_seek_93 : decode cX5_seek 93 = .ok (.getfield 21, 3) := by decide +kernel
theorem dX5_seek_96 : decode cX5_seek 96 = .ok (.getfield 43, 3) := by decide +kernel
theorem dX5_seek_99 : decode cX5_seek 99 = .ok (.if_icmp .ge 77, 3) := by decide +kernel
theorem dX7_lieAs_0 : decode cX7_lieAs 0 = .ok (.aload_n 1, 1) := by decide +kernel
theorem dX7_lieAs_1 : decode cX7_lieAs 1 = .ok (.iconst 0, 1) := by decide +kernel
theorem dX7_lieAs_10 : decode cX7_lieAs 10 = .ok (.getfield 24, 3) := by decide +kernel
theorem dX7_lieAs_13 : decode cX7_lieAs 13 = .ok (.getfield 28, 3) := by decide +kernel
theorem dX7_lieAs_16 : decode cX7_lieAs 16 = .ok (.invokestatic 56, 3) := by decide +kernel
theorem dX7_lieAs_19 : decode cX7_lieAs 19 = .ok (.invokestatic 50, 3) := by decide +kernel
theorem dX7_lieAs_2 : decode cX7_lieAs 2 = .ok (.aload_n 0, 1) := by decide +kernel
theorem dX7_lieAs_22 : decode cX7_lieAs 22 = .ok (.return_, 1) := by decide +kernel
theorem dX7_lieAs_3 : decode cX7_lieAs 3 = .ok (.getfield 9, 3) := by decide +kernel
theorem dX7_lieAs_6 : decode cX7_lieAs 6 = .ok (.iconst 0, 1) := by decide +kernel
theorem dX7_lieAs_7 : decode cX7_lieAs 7 = .ok (.aload_n 1, 1) := by decide +kernel
theorem dX7_lieAs_8 : decode cX7_lieAs 8 = .ok (.arraylength, 1) := by decide +kernel
theorem dX7_lieAs_9 : decode cX7_lieAs 9 = .ok (.aload_n 0, 1) := by decide +kernel
set_option maxRecDepth 4000 in
theorem k_X5_driven_45 (l : Launch) (M : Mem) (hJ : Iw M) (x0 : Int) (hx0a : 0 ≤ x0) (hx0b : x0 ≤ 8) : CI l yX5_driven cX5_driven 4 (some .int) 2 (fun ad => [.ref (ad 45), ii x0]) M (fun z M' => ((-2147483648) ≤ z ∧ z ≤ 2147483647) ∧ M = M') := by
  obtain ⟨hI, hW⟩ := hJ
  refine en_i (by decide +kernel) (fun ad => by exact Nat.le_of_ble_eq_true rfl) (fun D cy ad A p e s m args below meth c Q F hret => ?_)
  refine z_eq (ls' := [(0, .ref (ad 45)), (1, ii x0)]) rfl rfl rfl ?_
  refine z_iconst F dX5_driven_0 ?_
  refine z_istore_n F dX5_driven_1 rfl (by decide) (ls' := [(2, ii 0), (0, .ref (ad 45)), (1, ii x0)]) rfl ?_
  refine z_iload_n F dX5_driven_2 rfl (q := 2) rfl ?_
  refine z_istore_n F dX5_driven_3 rfl (by decide) (ls' := [(3, ii x0), (2, ii 0), (0, .ref (ad 45)), (1, ii x0)]) rfl ?_
  refine z_loc [2, 3, 1, 0] (ls' := [(0, .ref (ad 45)), (1, ii x0), (2, ii 0), (3, ii x0)]) rfl ?_
  suffices key4 : ∀ (n : Nat) (y2 : Int) (y3 : Int), (-2147483648) ≤ y2 → y2 ≤ 2147483647 → 0 ≤ y3 → y3 ≤ 8 → 8 - y3 < (n : Int) → Z D cy ad p l e (RMh 2) s m args below meth c A 4 0 0 Q 4 [(0, .ref (ad 45)), (1, ii x0), (2, ii y2), (3, ii y3)] [] M from key4 9 0 x0 (by omega) (by omega) (by omega) (by omega) (by omega)
  intro n4
  induction n4 with
  | zero => intro y2 y3 ay2 by2 ay3 by3 hn4; exfalso; omega
  | succ n4 ih4 =>
    intro y2 y3 ay2 by2 ay3 by3 hn4
    refine z_iload_n F dX5_driven_4 rfl (q := 3) rfl ?_
    refine z_aload_n F dX5_driven_5 rfl (q := 0) rfl ?_
    refine rf_X5_21 F gs_45 rfl dX5_driven_6 ?_
    refine gf_X5_37 F hI gs_2 rfl bd_2_3 dX5_driven_9 (fun v4 ev4 av4 bv4 => ?_)
    refine z_icmp_ge (tgt := 55) F dX5_driven_12 (by decide +kernel) (by omega) (by omega) (fun c5 => ?_) (fun c5 => ?_)
    · refine z_iload_n F dX5_driven_55 rfl (q := 2) rfl ?_
      exact hret _ _ 56 _ (by omega) ⟨hI, hW⟩ ⟨⟨by omega, by omega⟩, rfl⟩ dX5_driven_56
    · refine z_iload_n F dX5_driven_15 rfl (q := 2) rfl ?_
      refine z_aload_n F dX5_driven_16 rfl (q := 0) rfl ?_
      refine rf_X5_9 F gs_45 rfl dX5_driven_17 ?_
      refine z_iload_n F dX5_driven_20 rfl (q := 1) rfl ?_
      refine z_bipush F dX5_driven_21 (by decide +kernel) ?_
      refine z_imul F dX5_driven_23 ?_
      refine z_iload_n F dX5_driven_24 rfl (q := 3) rfl ?_
      refine z_iadd F dX5_driven_25 ?_
      refine z_iald F hI gs_46 (by omega) (by omega) (by decide) bd_46 dX5_driven_26 (fun v6 (ev6 : v6 = M 46 _) av6 bv6 => ?_)
      refine z_aload_n F dX5_driven_27 rfl (q := 0) rfl ?_
      refine rf_X5_25 F gs_45 rfl dX5_driven_28 ?_
      refine rf_X5_74 F gs_35 rfl dX5_driven_31 ?_
      refine z_iload_n F dX5_driven_34 rfl (q := 3) rfl ?_
      refine z_iald F hI gs_36 (by omega) (by omega) (by decide) bd_36 dX5_driven_35 (fun v7 (ev7 : v7 = M 36 _) av7 bv7 => ?_)
      refine zn_i (rest := [ii y2]) F (k_X11_isIn l M ⟨hI, hW⟩ v6 (by omega) (by omega) v7 (by omega) (by omega)) cs_X5_46 (by decide) (by decide) rfl rfl rfl (Nat.le_of_ble_eq_true rfl) dX5_driven_36 (fun v8 M9 rv8 hI p10 => ?_)
      obtain ⟨hI, hW⟩ := hI
      obtain ⟨⟨av8, bv8⟩, rfl, xp10⟩ := p10
      have hbqv7 := xp10
      refine z_if_eq (tgt := 46) F dX5_driven_39 (by decide +kernel) (by omega) (fun c11 => ?_) (fun c11 => ?_)
      · refine z_iconst F dX5_driven_46 ?_
        refine z_iadd F dX5_driven_47 ?_
        refine z_wrap (fun v12 rv12 wv12 => ?_)
        refine z_istore_n F dX5_driven_48 rfl (by decide) (ls' := [(2, ii v12), (0, .ref (ad 45)), (1, ii x0), (3, ii y3)]) rfl ?_
        refine z_iincN F dX5_driven_49 (q := 3) rfl (by decide) (fun v13 ev13 => ?_)
        refine z_eq (ls' := [(3, ii v13), (2, ii v12), (0, .ref (ad 45)), (1, ii x0)]) rfl rfl rfl ?_
        refine z_goto (tgt := 4) F dX5_driven_52 (by decide +kernel) ?_
        refine z_loc [2, 3, 1, 0] (ls' := [(0, .ref (ad 45)), (1, ii x0), (2, ii v12), (3, ii v13)]) rfl ?_
        exact ih4 v12 v13 (by omega) (by omega) (by omega) (by omega) (by omega)
      · refine z_iconst F dX5_driven_42 ?_
        refine z_goto (tgt := 47) F dX5_driven_43 (by decide +kernel) ?_
        refine z_iadd F dX5_driven_47 ?_
        refine z_nm (fun v14 ev14 => ?_)
        refine z_istore_n F dX5_driven_48 rfl (by decide) (ls' := [(2, ii v14), (0, .ref (ad 45)), (1, ii x0), (3, ii y3)]) rfl ?_
        refine z_iincN F dX5_driven_49 (q := 3) rfl (by decide) (fun v15 ev15 => ?_)
        refine z_eq (ls' := [(3, ii v15), (2, ii v14), (0, .ref (ad 45)), (1, ii x0)]) rfl rfl rfl ?_
        refine z_goto (tgt := 4) F dX5_driven_52 (by decide +kernel) ?_
        refine z_loc [2, 3, 1, 0] (ls' := [(0, .ref (ad 45)), (1, ii x0), (2, ii v14), (3, ii v15)]) rfl ?_
        exact ih4 v14 v15 (by omega) (by omega) (by omega) (by omega) (by omega)
set_option maxRecDepth 4000 in
theorem k_X5_seek_45 (l : Launch) : ∀ (nr : Nat) (M : Mem) (hJ : Iw M) (x0 : Int) (hx0a : 0 ≤ x0) (hx0b : x0 ≤ 8) (x1 : Int) (hx1a : (-2147483648) ≤ x1) (hx1b : x1 ≤ 2147483647) (x2 : Int) (hx2a : (-2147483648) ≤ x2) (hx2b : x2 ≤ 2147483647) (hmu : 8 - x0 < (nr : Int)), CV l yX5_seek cX5_seek 7 none (5 + nr) (fun ad => [.ref (ad 45), ii x0, ii x1, ii x2]) M (fun M' => Fr [45, 46, 47, 48] M M') := by
  intro nr
  induction nr with
  | zero => intro M hJ x0 hx0a hx0b x1 hx1a hx1b x2 hx2a hx2b hmu; exfalso; omega
  | succ nr ih =>
  intro M hJ x0 hx0a hx0b x1 hx1a hx1b x2 hx2a hx2b hmu
  obtain ⟨hI, hW⟩ := hJ
  have hF : Fr [45, 46, 47, 48] M M := Fr.rf
  refine en_v (by decide +kernel) (fun ad => by exact Nat.le_of_ble_eq_true rfl) (fun D cy ad A p e s m args below meth c Q F hret => ?_)
  refine z_eq (ls' := [(0, .ref (ad 45)), (1, ii x0), (2, ii x1), (3, ii x2)]) rfl rfl rfl ?_
  refine z_iload_n F dX5_seek_0 rfl (q := 3) rfl ?_
  refine z_aload_n F dX5_seek_1 rfl (q := 0) rfl ?_
  refine gf_X5_54 F hI gs_45 rfl bd_45_8 dX5_seek_2 (fun v1 ev1 av1 bv1 => ?_)
  refine z_icmp_ge (tgt := 17) F dX5_seek_5 (by decide +kernel) (by omega) (by omega) (fun c2 => ?_) (fun c2 => ?_)
  · exact hret _ 17 _ ⟨hI, hW⟩ hF dX5_seek_17
  · refine z_aload_n F dX5_seek_8 rfl (q := 0) rfl ?_
    refine z_iload_n F dX5_seek_9 rfl (q := 1) rfl ?_
    refine zv_i (rest := []) F (k_X5_driven_45 l M ⟨hI, hW⟩ x0 (by omega) (by omega)) cs_X5_128 (T := TX5) (N := 9) (ci := 5) rfl gs_45 (by omega) (by decide) rfl rfl rfl (Nat.le_of_ble_eq_true rfl) dX5_seek_10 (fun v3 M4 rv3 hI p5 => ?_)
    obtain ⟨hI, hW⟩ := hI
    obtain ⟨⟨av3, bv3⟩, rfl⟩ := p5
    refine z_iload_n F dX5_seek_13 rfl (q := 2) rfl ?_
    refine z_icmp_le (tgt := 18) F dX5_seek_14 (by decide +kernel) (by omega) (by omega) (fun c6 => ?_) (fun c6 => ?_)
    · refine z_iload_n F dX5_seek_18 rfl (q := 1) rfl ?_
      refine z_aload_n F dX5_seek_19 rfl (q := 0) rfl ?_
      refine rf_X5_21 F gs_45 rfl dX5_seek_20 ?_
      refine gf_X5_37 F hI gs_2 rfl bd_2_3 dX5_seek_23 (fun v7 ev7 av7 bv7 => ?_)
      refine z_icmp_lt (tgt := 50) F dX5_seek_26 (by decide +kernel) (by omega) (by omega) (fun c8 => ?_) (fun c8 => ?_)
      · refine z_aload_n F dX5_seek_50 rfl (q := 0) rfl ?_
        refine rf_X5_25 F gs_45 rfl dX5_seek_51 ?_
        refine rf_X5_74 F gs_35 rfl dX5_seek_54 ?_
        refine z_iload_n F dX5_seek_57 rfl (q := 1) rfl ?_
        refine z_iald F hI gs_36 (by omega) (by omega) (by decide) bd_36 dX5_seek_58 (fun v9 (ev9 : v9 = M 36 _) av9 bv9 => ?_)
        refine z_istore F dX5_seek_59 (by decide) (ls' := [(4, ii v9), (0, .ref (ad 45)), (1, ii x0), (2, ii x1), (3, ii x2)]) rfl ?_
        refine z_aload_n F dX5_seek_61 rfl (q := 1) rfl ?_
        refine rf_X5_9 F gs_45 rfl dX5_seek_62 ?_
        refine z_iload_n F dX5_seek_65 rfl (q := 2) rfl ?_
        refine z_bipush F dX5_seek_66 (by decide +kernel) ?_
        refine z_imul F dX5_seek_68 ?_
        refine z_iload_n F dX5_seek_69 rfl (q := 2) rfl ?_
        refine z_iadd F dX5_seek_70 ?_
        refine z_iald F hI gs_46 (by omega) (by omega) (by decide) bd_46 dX5_seek_71 (fun v10 (ev10 : v10 = M 46 _) av10 bv10 => ?_)
        refine z_istore F dX5_seek_72 (by decide) (ls' := [(5, ii v10), (4, ii v9), (0, .ref (ad 45)), (1, ii x0), (2, ii x1), (3, ii x2)]) rfl ?_
        refine z_iload_n F dX5_seek_74 rfl (q := 4) rfl ?_
        refine z_if_ne (tgt := 87) F dX5_seek_75 (by decide +kernel) (by omega) (fun c11 => ?_) (fun c11 => ?_)
        · refine z_iconst F dX5_seek_87 ?_
          refine z_istore F dX5_seek_88 (by decide) (ls' := [(6, ii 0), (5, ii v10), (4, ii v9), (0, .ref (ad 45)), (1, ii x0), (2, ii x1), (3, ii x2)]) rfl ?_
          refine z_loc [3, 4, 5, 6, 2, 1, 0] (ls' := [(0, .ref (ad 45)), (1, ii x0), (2, ii x1), (3, ii x2), (4, ii v9), (5, ii v10), (6, ii 0)]) rfl ?_
          suffices key90 : ∀ (n : Nat) (y13 : Int) (M12 : Mem), Inv M12 → WFk M12 → Fr [45, 46, 47, 48] M M12 → 0 ≤ y13 → y13 ≤ 10 → 10 - y13 < (n : Int) → Z D cy ad p l e (RMh (5 + (nr + 1))) s m args below meth c A 7 0 0 Q 90 [(0, .ref (ad 45)), (1, ii x0), (2, ii x1), (3, ii x2), (4, ii v9), (5, ii v10), (6, ii y13)] [] M12 from key90 11 0 M hI hW hF (by omega) (by omega) (by omega)
          intro n90
          induction n90 with
          | zero => intro y13 M12 hI hW hF ay13 by13 hn90; exfalso; omega
          | succ n90 ih90 =>
            intro y13 M12 hI hW hF ay13 by13 hn90
            refine z_iload F dX5_seek_90 (q := 6) rfl ?_
            refine z_aload_n F dX5_seek_92 rfl (q := 0) rfl ?_
            refine rf_X5_21 F gs_45 rfl dX5_seek_93 ?_
            refine gf_X5_43 F hI gs_2 rfl bd_2_1 dX5_seek_96 (fun v14 ev14 av14 bv14 => ?_)
            refine z_icmp_ge (tgt := 176) F dX5_seek_99 (by decide +kernel) (by omega) (by omega) (fun c15 => ?_) (fun c15 => ?_)
            · exact hret _ 176 _ ⟨hI, hW⟩ hF dX5_seek_176
            · refine z_iload F dX5_seek_102 (q := 5) rfl ?_
              refine z_iload F dX5_seek_104 (q := 6) rfl ?_
              refine zn_i (rest := []) F (k_X11_isIn l M12 ⟨hI, hW⟩ v10 (by omega) (by omega) y13 (by omega) (by omega)) cs_X5_46 (by omega) (by decide) rfl rfl rfl (Nat.le_of_ble_eq_true rfl) dX5_seek_106 (fun v16 M17 rv16 hI p18 => ?_)
              obtain ⟨hI, hW⟩ := hI
              obtain ⟨⟨av16, bv16⟩, rfl, xp18⟩ := p18
              have hbqy13 := xp18
              refine z_if_eq (tgt := 170) F dX5_seek_109 (by decide +kernel) (by omega) (fun c19 => ?_) (fun c19 => ?_)
              · refine z_iincN F dX5_seek_170 (q := 6) rfl (by decide) (fun v20 ev20 => ?_)
                refine z_eq (ls' := [(6, ii v20), (0, .ref (ad 45)), (1, ii x0), (2, ii x1), (3, ii x2), (4, ii v9), (5, ii v10)]) rfl rfl rfl ?_
                refine z_goto (tgt := 90) F dX5_seek_173 (by decide +kernel) ?_
                refine z_loc [1, 2, 3, 4, 5, 6, 0] (ls' := [(0, .ref (ad 45)), (1, ii x0), (2, ii x1), (3, ii x2), (4, ii v9), (5, ii v10), (6, ii v20)]) rfl ?_
                exact ih90 v20 M12 hI hW hF (by omega) (by omega) (by omega)
              · refine z_aload_n F dX5_seek_112 rfl (q := 0) rfl ?_
                refine rf_X5_21 F gs_45 rfl dX5_seek_113 ?_
                refine z_iload F dX5_seek_116 (q := 4) rfl ?_
                refine z_iload F dX5_seek_118 (q := 6) rfl ?_
                refine zv_i (rest := []) F (k_X9_stepsBetween_2 l M12 ⟨hI, hW⟩ v9 (by omega) (by omega) y13 (by omega) (by omega)) cs_X5_137 (T := TX9) (N := 18) (ci := 9) rfl gs_2 (by omega) (by decide) rfl rfl rfl (Nat.le_of_ble_eq_true rfl) dX5_seek_120 (fun v21 M22 rv21 hI p23 => ?_)
                obtain ⟨hI, hW⟩ := hI
                obtain ⟨⟨av21, bv21⟩, rfl⟩ := p23
                refine z_iconst F dX5_seek_123 ?_
                refine z_icmp_eq (tgt := 170) F dX5_seek_124 (by decide +kernel) (by omega) (by omega) (fun c24 => ?_) (fun c24 => ?_)
                · refine z_iincN F dX5_seek_170 (q := 6) rfl (by decide) (fun v25 ev25 => ?_)
                  refine z_eq (ls' := [(6, ii v25), (0, .ref (ad 45)), (1, ii x0), (2, ii x1), (3, ii x2), (4, ii v9), (5, ii v10)]) rfl rfl rfl ?_
                  refine z_goto (tgt := 90) F dX5_seek_173 (by decide +kernel) ?_
                  refine z_loc [1, 2, 3, 4, 5, 6, 0] (ls' := [(0, .ref (ad 45)), (1, ii x0), (2, ii x1), (3, ii x2), (4, ii v9), (5, ii v10), (6, ii v25)]) rfl ?_
                  exact ih90 v25 M12 hI hW hF (by omega) (by omega) (by omega)
                · refine z_aload_n F dX5_seek_127 rfl (q := 0) rfl ?_
                  refine z_iload_n F dX5_seek_128 rfl (q := 1) rfl ?_
                  refine z_iload F dX5_seek_129 (q := 6) rfl ?_
                  refine zv_i (rest := []) F (k_X5_lay_45 l M12 ⟨hI, hW⟩ x0 (by omega) (by omega) y13 (by omega) (by omega)) cs_X5_50 (T := TX5) (N := 9) (ci := 5) rfl gs_45 (by omega) (by decide) rfl rfl rfl (Nat.le_of_ble_eq_true rfl) dX5_seek_131 (fun v26 M27 rv26 hI p28 => ?_)
                  obtain ⟨hI, hW⟩ := hI
                  obtain ⟨⟨av26, bv26⟩, fp28⟩ := p28
                  have hF := hF.call fp28 (by decide)
                  refine z_if_eq (tgt := 170) F dX5_seek_134 (by decide +kernel) (by omega) (fun c29 => ?_) (fun c29 => ?_)
                  · refine z_iincN F dX5_seek_170 (q := 6) rfl (by decide) (fun v30 ev30 => ?_)
                    refine z_eq (ls' := [(6, ii v30), (0, .ref (ad 45)), (1, ii x0), (2, ii x1), (3, ii x2), (4, ii v9), (5, ii v10)]) rfl rfl rfl ?_
                    refine z_goto (tgt := 90) F dX5_seek_173 (by decide +kernel) ?_
                    refine z_loc [1, 2, 3, 4, 5, 6, 0] (ls' := [(0, .ref (ad 45)), (1, ii x0), (2, ii x1), (3, ii x2), (4, ii v9), (5, ii v10), (6, ii v30)]) rfl ?_
                    exact ih90 v30 M27 hI hW hF (by omega) (by omega) (by omega)
                  · refine z_aload_n F dX5_seek_137 rfl (q := 0) rfl ?_
                    refine z_iload_n F dX5_seek_138 rfl (q := 1) rfl ?_
                    refine z_iconst F dX5_seek_139 ?_
                    refine z_iadd F dX5_seek_140 ?_
                    refine z_iload F dX5_seek_141 (q := 6) rfl ?_
                    refine z_iload F dX5_seek_143 (q := 4) rfl ?_
                    refine z_icmp_ne (tgt := 152) F dX5_seek_145 (by decide +kernel) (by omega) (by omega) (fun c31 => ?_) (fun c31 => ?_)
                    · refine z_iload_n F dX5_seek_152 rfl (q := 2) rfl ?_
                      refine z_iconst F dX5_seek_153 ?_
                      refine z_isub F dX5_seek_154 ?_
                      refine z_wrap (fun v32 rv32 wv32 => ?_)
                      refine z_iload_n F dX5_seek_155 rfl (q := 3) rfl ?_
                      refine z_aload_n F dX5_seek_156 rfl (q := 0) rfl ?_
                      refine rf_X5_25 F gs_45 rfl dX5_seek_157 ?_
                      refine z_iload_n F dX5_seek_160 rfl (q := 1) rfl ?_
                      refine z_iload F dX5_seek_161 (q := 6) rfl ?_
                      refine zv_i (rest := [ii x2, ii v32, ii (x0 + 1), .ref (ad 45)]) F (k_X7_minutesTo_35 l M27 ⟨hI, hW⟩ x0 (by omega) (by omega) y13 (by omega) (by omega)) cs_X5_140 (T := TX7) (N := 7) (ci := 7) rfl gs_35 (by omega) (by decide) rfl rfl rfl (Nat.le_of_ble_eq_true rfl) dX5_seek_163 (fun v33 M34 rv33 hI p35 => ?_)
                      obtain ⟨hI, hW⟩ := hI
                      obtain ⟨⟨av33, bv33⟩, rfl⟩ := p35
                      refine z_iadd F dX5_seek_166 ?_
                      refine z_wrap (fun v36 rv36 wv36 => ?_)
                      refine zv_v (rest := []) F (ih M27 ⟨hI, hW⟩ (x0 + 1) (by omega) (by omega) v32 (by omega) (by omega) v36 (by omega) (by omega) (by omega)) cs_X5_57 (T := TX5) (N := 9) (ci := 5) rfl gs_45 (by omega) (by decide) rfl rfl rfl (Nat.le_of_ble_eq_true rfl) dX5_seek_167 (fun M37 hI p38 => ?_)
                      obtain ⟨hI, hW⟩ := hI
                      have fp38 := p38
                      have hF := hF.call fp38 (by decide)
                      refine z_iincN F dX5_seek_170 (q := 6) rfl (by decide) (fun v39 ev39 => ?_)
                      refine z_eq (ls' := [(6, ii v39), (0, .ref (ad 45)), (1, ii x0), (2, ii x1), (3, ii x2), (4, ii v9), (5, ii v10)]) rfl rfl rfl ?_
                      refine z_goto (tgt := 90) F dX5_seek_173 (by decide +kernel) ?_
                      refine z_loc [1, 2, 3, 4, 5, 6, 0] (ls' := [(0, .ref (ad 45)), (1, ii x0), (2, ii x1), (3, ii x2), (4, ii v9), (5, ii v10), (6, ii v39)]) rfl ?_
                      exact ih90 v39 M37 hI hW hF (by omega) (by omega) (by omega)
                    · refine z_iload_n F dX5_seek_148 rfl (q := 2) rfl ?_
                      refine z_goto (tgt := 155) F dX5_seek_149 (by decide +kernel) ?_
                      refine z_iload_n F dX5_seek_155 rfl (q := 3) rfl ?_
                      refine z_aload_n F dX5_seek_156 rfl (q := 0) rfl ?_
                      refine rf_X5_25 F gs_45 rfl dX5_seek_157 ?_
                      refine z_iload_n F dX5_seek_160 rfl (q := 1) rfl ?_
                      refine z_iload F dX5_seek_161 (q := 6) rfl ?_
                      refine zv_i (rest := [ii x2, ii x1, ii (x0 + 1), .ref (ad 45)]) F (k_X7_minutesTo_35 l M27 ⟨hI, hW⟩ x0 (by omega) (by omega) y13 (by omega) (by omega)) cs_X5_140 (T := TX7) (N := 7) (ci := 7) rfl gs_35 (by omega) (by decide) rfl rfl rfl (Nat.le_of_ble_eq_true rfl) dX5_seek_163 (fun v40 M41 rv40 hI p42 => ?_)
                      obtain ⟨hI, hW⟩ := hI
                      obtain ⟨⟨av40, bv40⟩, rfl⟩ := p42
                      refine z_iadd F dX5_seek_166 ?_
                      refine z_wrap (fun v43 rv43 wv43 => ?_)
                      refine zv_v (rest := []) F (ih M27 ⟨hI, hW⟩ (x0 + 1) (by omega) (by omega) x1 (by omega) (by omega) v43 (by omega) (by omega) (by omega)) cs_X5_57 (T := TX5) (N := 9) (ci := 5) rfl gs_45 (by omega) (by decide) rfl rfl rfl (Nat.le_of_ble_eq_true rfl) dX5_seek_167 (fun M44 hI p45 => ?_)
                      obtain ⟨hI, hW⟩ := hI
                      have fp45 := p45
                      have hF := hF.call fp45 (by decide)
                      refine z_iincN F dX5_seek_170 (q := 6) rfl (by decide) (fun v46 ev46 => ?_)
                      refine z_eq (ls' := [(6, ii v46), (0, .ref (ad 45)), (1, ii x0), (2, ii x1), (3, ii x2), (4, ii v9), (5, ii v10)]) rfl rfl rfl ?_
                      refine z_goto (tgt := 90) F dX5_seek_173 (by decide +kernel) ?_
                      refine z_loc [1, 2, 3, 4, 5, 6, 0] (ls' := [(0, .ref (ad 45)), (1, ii x0), (2, ii x1), (3, ii x2), (4, ii v9), (5, ii v10), (6, ii v46)]) rfl ?_
                      exact ih90 v46 M44 hI hW hF (by omega) (by omega) (by omega)
        · refine z_iload F dX5_seek_78 (q := 0) rfl ?_
          refine z_iconst F dX5_seek_80 ?_
          refine z_iload F dX5_seek_81 (q := 1) rfl ?_
          refine z_shl1 (k := 9) F dX5_seek_83 (by decide) (by omega) (by omega) (fun v47 ev47 av47 bv47 => ?_)
          refine z_iand_r F dX5_seek_84 (by omega) (by omega) (fun v48 ev48 av48 bv48 => ?_)
          refine z_istore F dX5_seek_85 (by decide) (ls' := [(5, ii v48), (4, ii v9), (0, .ref (ad 45)), (1, ii x0), (2, ii x1), (3, ii x2)]) rfl ?_
          refine z_iconst F dX5_seek_87 ?_
          refine z_istore F dX5_seek_88 (by decide) (ls' := [(6, ii 0), (5, ii v48), (4, ii v9), (0, .ref (ad 45)), (1, ii x0), (2, ii x1), (3, ii x2)]) rfl ?_
          refine z_loc [3, 4, 5, 6, 2, 1, 0] (ls' := [(0, .ref (ad 45)), (1, ii x0), (2, ii x1), (3, ii x2), (4, ii v9), (5, ii v48), (6, ii 0)]) rfl ?_
          suffices key90 : ∀ (n : Nat) (y50 : Int) (M49 : Mem), Inv M49 → WFk M49 → Fr [45, 46, 47, 48] M M49 → 0 ≤ y50 → y50 ≤ 10 → 10 - y50 < (n : Int) → Z D cy ad p l e (RMh (5 + (nr + 1))) s m args below meth c A 7 0 0 Q 90 [(0, .ref (ad 45)), (1, ii x0), (2, ii x1), (3, ii x2), (4, ii v9), (5, ii v48), (6, ii y50)] [] M49 from key90 11 0 M hI hW hF (by omega) (by omega) (by omega)
          intro n90
          induction n90 with
          | zero => intro y50 M49 hI hW hF ay50 by50 hn90; exfalso; omega
          | succ n90 ih90 =>
            intro y50 M49 hI hW hF ay50 by50 hn90
            refine z_iload F dX5_seek_90 (q := 6) rfl ?_
            refine z_aload_n F dX5_seek_92 rfl (q := 0) rfl ?_
            refine rf_X5_21 F gs_45 rfl dX5_seek_93 ?_
            refine gf_X5_43 F hI gs_2 rfl bd_2_1 dX5_seek_96 (fun v51 ev51 av51 bv51 => ?_)
            refine z_icmp_ge (tgt := 176) F dX5_seek_99 (by decide +kernel) (by omega) (by omega) (fun c52 => ?_) (fun c52 => ?_)
            · exact hret _ 176 _ ⟨hI, hW⟩ hF dX5_seek_176
            · refine z_iload F dX5_seek_102 (q := 5) rfl ?_
              refine z_iload F dX5_seek_104 (q := 6) rfl ?_
              refine zn_i (rest := []) F (k_X11_isIn l M49 ⟨hI, hW⟩ v48 (by omega) (by omega) y50 (by omega) (by omega)) cs_X5_46 (by omega) (by decide) rfl rfl rfl (Nat.le_of_ble_eq_true rfl) dX5_seek_106 (fun v53 M54 rv53 hI p55 => ?_)
              obtain ⟨hI, hW⟩ := hI
              obtain ⟨⟨av53, bv53⟩, rfl, xp55⟩ := p55
              have hbqy50 := xp55
              refine z_if_eq (tgt := 170) F dX5_seek_109 (by decide +kernel) (by omega) (fun c56 => ?_) (fun c56 => ?_)
              · refine z_iincN F dX5_seek_170 (q := 6) rfl (by decide) (fun v57 ev57 => ?_)
                refine z_eq (ls' := [(6, ii v57), (0, .ref (ad 45)), (1, ii x0), (2, ii x1), (3, ii x2), (4, ii v9), (5, ii v48)]) rfl rfl rfl ?_
                refine z_goto (tgt := 90) F dX5_seek_173 (by decide +kernel) ?_
                refine z_loc [1, 2, 3, 4, 5, 6, 0] (ls' := [(0, .ref (ad 45)), (1, ii x0), (2, ii x1), (3, ii x2), (4, ii v9), (5, ii v48), (6, ii v57)]) rfl ?_
                exact ih90 v57 M49 hI hW hF (by omega) (by omega) (by omega)
              · refine z_aload_n F dX5_seek_112 rfl (q := 0) rfl ?_
                refine rf_X5_21 F gs_45 rfl dX5_seek_113 ?_
                refine z_iload F dX5_seek_116 (q := 4) rfl ?_
                refine z_iload F dX5_seek_118 (q := 6) rfl ?_
                refine zv_i (rest := []) F (k_X9_stepsBetween_2 l M49 ⟨hI, hW⟩ v9 (by omega) (by omega) y50 (by omega) (by omega)) cs_X5_137 (T := TX9) (N := 18) (ci := 9) rfl gs_2 (by omega) (by decide) rfl rfl rfl (Nat.le_of_ble_eq_true rfl) dX5_seek_120 (fun v58 M59 rv58 hI p60 => ?_)
                obtain ⟨hI, hW⟩ := hI
                obtain ⟨⟨av58, bv58⟩, rfl⟩ := p60
                refine z_iconst F dX5_seek_123 ?_
                refine z_icmp_eq (tgt := 170) F dX5_seek_124 (by decide +kernel) (by omega) (by omega) (fun c61 => ?_) (fun c61 => ?_)
                · refine z_iincN F dX5_seek_170 (q := 6) rfl (by decide) (fun v62 ev62 => ?_)
                  refine z_eq (ls' := [(6, ii v62), (0, .ref (ad 45)), (1, ii x0), (2, ii x1), (3, ii x2), (4, ii v9), (5, ii v48)]) rfl rfl rfl ?_
                  refine z_goto (tgt := 90) F dX5_seek_173 (by decide +kernel) ?_
                  refine z_loc [1, 2, 3, 4, 5, 6, 0] (ls' := [(0, .ref (ad 45)), (1, ii x0), (2, ii x1), (3, ii x2), (4, ii v9), (5, ii v48), (6, ii v62)]) rfl ?_
                  exact ih90 v62 M49 hI hW hF (by omega) (by omega) (by omega)
                · refine z_aload_n F dX5_seek_127 rfl (q := 0) rfl ?_
                  refine z_iload_n F dX5_seek_128 rfl (q := 1) rfl ?_
                  refine z_iload F dX5_seek_129 (q := 6) rfl ?_
                  refine zv_i (rest := []) F (k_X5_lay_45 l M49 ⟨hI, hW⟩ x0 (by omega) (by omega) y50 (by omega) (by omega)) cs_X5_50 (T := TX5) (N := 9) (ci := 5) rfl gs_45 (by omega) (by decide) rfl rfl rfl (Nat.le_of_ble_eq_true rfl) dX5_seek_131 (fun v63 M64 rv63 hI p65 => ?_)
                  obtain ⟨hI, hW⟩ := hI
                  obtain ⟨⟨av63, bv63⟩, fp65⟩ := p65
                  have hF := hF.call fp65 (by decide)
                  refine z_if_eq (tgt := 170) F dX5_seek_134 (by decide +kernel) (by omega) (fun c66 => ?_) (fun c66 => ?_)
                  · refine z_iincN F dX5_seek_170 (q := 6) rfl (by decide) (fun v67 ev67 => ?_)
                    refine z_eq (ls' := [(6, ii v67), (0, .ref (ad 45)), (1, ii x0), (2, ii x1), (3, ii x2), (4, ii v9), (5, ii v48)]) rfl rfl rfl ?_
                    refine z_goto (tgt := 90) F dX5_seek_173 (by decide +kernel) ?_
                    refine z_loc [1, 2, 3, 4, 5, 6, 0] (ls' := [(0, .ref (ad 45)), (1, ii x0), (2, ii x1), (3, ii x2), (4, ii v9), (5, ii v48), (6, ii v67)]) rfl ?_
                    exact ih90 v67 M64 hI hW hF (by omega) (by omega) (by omega)
                  · refine z_aload_n F dX5_seek_137 rfl (q := 0) rfl ?_
                    refine z_iload_n F dX5_seek_138 rfl (q := 1) rfl ?_
                    refine z_iconst F dX5_seek_139 ?_
                    refine z_iadd F dX5_seek_140 ?_
                    refine z_iload F dX5_seek_141 (q := 6) rfl ?_
                    refine z_iload F dX5_seek_143 (q := 4) rfl ?_
                    refine z_icmp_ne (tgt := 152) F dX5_seek_145 (by decide +kernel) (by omega) (by omega) (fun c68 => ?_) (fun c68 => ?_)
                    · refine z_iload_n F dX5_seek_152 rfl (q := 2) rfl ?_
                      refine z_iconst F dX5_seek_153 ?_
                      refine z_isub F dX5_seek_154 ?_
                      refine z_iload_n F dX5_seek_155 rfl (q := 3) rfl ?_
                      refine z_aload_n F dX5_seek_156 rfl (q := 0) rfl ?_
                      refine rf_X5_25 F gs_45 rfl dX5_seek_157 ?_
                      refine z_iload_n F dX5_seek_160 rfl (q := 1) rfl ?_
                      refine z_iload F dX5_seek_161 (q := 6) rfl ?_
                      refine zv_i (rest := [ii x2, ii (x1 - 1), ii (x0 + 1), .ref (ad 45)]) F (k_X7_minutesTo_35 l M64 ⟨hI, hW⟩ x0 (by omega) (by omega) y50 (by omega) (by omega)) cs_X5_140 (T := TX7) (N := 7) (ci := 7) rfl gs_35 (by omega) (by decide) rfl rfl rfl (Nat.le_of_ble_eq_true rfl) dX5_seek_163 (fun v69 M70 rv69 hI p71 => ?_)
                      obtain ⟨hI, hW⟩ := hI
                      obtain ⟨⟨av69, bv69⟩, rfl⟩ := p71
                      refine z_iadd F dX5_seek_166 ?_
                      refine z_wrap (fun v72 rv72 wv72 => ?_)
                      refine zv_v (rest := []) F (ih M64 ⟨hI, hW⟩ (x0 + 1) (by omega) (by omega) (x1 - 1) (by omega) (by omega) v72 (by omega) (by omega) (by omega)) cs_X5_57 (T := TX5) (N := 9) (ci := 5) rfl gs_45 (by omega) (by decide) rfl rfl rfl (Nat.le_of_ble_eq_true rfl) dX5_seek_167 (fun M73 hI p74 => ?_)
                      obtain ⟨hI, hW⟩ := hI
                      have fp74 := p74
                      have hF := hF.call fp74 (by decide)
                      refine z_iincN F dX5_seek_170 (q := 6) rfl (by decide) (fun v75 ev75 => ?_)
                      refine z_eq (ls' := [(6, ii v75), (0, .ref (ad 45)), (1, ii x0), (2, ii x1), (3, ii x2), (4, ii v9), (5, ii v48)]) rfl rfl rfl ?_
                      refine z_goto (tgt := 90) F dX5_seek_173 (by decide +kernel) ?_
                      refine z_loc [1, 2, 3, 4, 5, 6, 0] (ls' := [(0, .ref (ad 45)), (1, ii x0), (2, ii x1), (3, ii x2), (4, ii v9), (5, ii v48), (6, ii v75)]) rfl ?_
                      exact ih90 v75 M73 hI hW hF (by omega) (by omega) (by omega)
                    · refine z_iload_n F dX5_seek_148 rfl (q := 2) rfl ?_
                      refine z_goto (tgt := 155) F dX5_seek_149 (by decide +kernel) ?_
                      refine z_iload_n F dX5_seek_155 rfl (q := 3) rfl ?_
                      refine z_aload_n F dX5_seek_156 rfl (q := 0) rfl ?_
                      refine rf_X5_25 F gs_45 rfl dX5_seek_157 ?_
                      refine z_iload_n F dX5_seek_160 rfl (q := 1) rfl ?_
                      refine z_iload F dX5_seek_161 (q := 6) rfl ?_
                      refine zv_i (rest := [ii x2, ii x1, ii (x0 + 1), .ref (ad 45)]) F (k_X7_minutesTo_35 l M64 ⟨hI, hW⟩ x0 (by omega) (by omega) y50 (by omega) (by omega)) cs_X5_140 (T := TX7) (N := 7) (ci := 7) rfl gs_35 (by omega) (by decide) rfl rfl rfl (Nat.le_of_ble_eq_true rfl) dX5_seek_163 (fun v76 M77 rv76 hI p78 => ?_)
                      obtain ⟨hI, hW⟩ := hI
                      obtain ⟨⟨av76, bv76⟩, rfl⟩ := p78
                      refine z_iadd F dX5_seek_166 ?_
                      refine z_wrap (fun v79 rv79 wv79 => ?_)
                      refine zv_v (rest := []) F (ih M64 ⟨hI, hW⟩ (x0 + 1) (by omega) (by omega) x1 (by omega) (by omega) v79 (by omega) (by omega) (by omega)) cs_X5_57 (T := TX5) (N := 9) (ci := 5) rfl gs_45 (by omega) (by decide) rfl rfl rfl (Nat.le_of_ble_eq_true rfl) dX5_seek_167 (fun M80 hI p81 => ?_)
                      obtain ⟨hI, hW⟩ := hI
                      have fp81 := p81
                      have hF := hF.call fp81 (by decide)
                      refine z_iincN F dX5_seek_170 (q := 6) rfl (by decide) (fun v82 ev82 => ?_)
                      refine z_eq (ls' := [(6, ii v82), (0, .ref (ad 45)), (1, ii x0), (2, ii x1), (3, ii x2), (4, ii v9), (5, ii v48)]) rfl rfl rfl ?_
                      refine z_goto (tgt := 90) F dX5_seek_173 (by decide +kernel) ?_
                      refine z_loc [1, 2, 3, 4, 5, 6, 0] (ls' := [(0, .ref (ad 45)), (1, ii x0), (2, ii x1), (3, ii x2), (4, ii v9), (5, ii v48), (6, ii v82)]) rfl ?_
                      exact ih90 v82 M80 hI hW hF (by omega) (by omega) (by omega)
      · refine z_aload_n F dX5_seek_29 rfl (q := 0) rfl ?_
        refine z_iload_n F dX5_seek_30 rfl (q := 3) rfl ?_
        refine pf_X5_54 F hI gs_45 rfl bd_45_8 rfl rfl dX5_seek_31 (by omega) (by omega) (fun M84 hI sf83 f83 => ?_)
        have hF := hF.wr f83 (by decide) (by decide)
        have hW : WFk M84 := hW.site f83 (by decide)
        refine z_aload_n F dX5_seek_34 rfl (q := 0) rfl ?_
        refine rf_X5_15 F gs_45 rfl dX5_seek_35 ?_
        refine z_iconst F dX5_seek_38 ?_
        refine z_aload_n F dX5_seek_39 rfl (q := 0) rfl ?_
        refine rf_X5_18 F gs_45 rfl dX5_seek_40 ?_
        refine z_iconst F dX5_seek_43 ?_
        refine z_bipush F dX5_seek_44 (by decide +kernel) ?_
        refine z_copy F (by decide) ac_X5_131 hI gs_47 gs_48 (by omega) (by omega) (by omega) (by omega) (by omega) (by decide) (by decide) (fun i hi => rfl) (Nat.le_of_ble_eq_true rfl) dX5_seek_46 (fun M86 hI g85 => ?_)
        have hF := hF.call g85 (by decide)
        have hW : WFk M86 := hW.fr g85 (by decide) (by decide)
        exact hret _ 49 _ ⟨hI, hW⟩ hF dX5_seek_49
    · exact hret _ 17 _ ⟨hI, hW⟩ hF dX5_seek_17
set_option maxRecDepth 4000 in
theorem k_X5_findNearest_45 (l : Launch) (M : Mem) (hJ : Iw M) : CI l yX5_findNearest cX5_findNearest 3 (some .boolean) 15 (fun ad => [.ref (ad 45)]) M (fun z M' => (0 ≤ z ∧ z ≤ 1) ∧ Fr [45, 46, 47, 48] M M') := by
  obtain ⟨hI, hW⟩ := hJ
  have hF : Fr [45, 46, 47, 48] M M := Fr.rf
  refine en_z (by decide +kernel) (fun ad => by exact Nat.le_of_ble_eq_true rfl) (fun D cy ad A p e s m args below meth c Q F hret => ?_)
  refine z_eq (ls' := [(0, .ref (ad 45))]) rfl rfl rfl ?_
  refine z_aload_n F dX5_findNearest_0 rfl (q := 0) rfl ?_
  refine zv_i (rest := []) F (k_X5_clearBoard_45 l M ⟨hI, hW⟩) cs_X5_29 (T := TX5) (N := 9) (ci := 5) rfl gs_45 (by decide) (by decide) rfl rfl rfl (Nat.le_of_ble_eq_true rfl) dX5_findNearest_1 (fun v1 M2 rv1 hI p3 => ?_)
  obtain ⟨hI, hW⟩ := hI
  obtain ⟨⟨av1, bv1⟩, fp3⟩ := p3
  have hF := hF.call fp3 (by decide)
  refine z_istore_n F dX5_findNearest_4 rfl (by decide) (ls' := [(1, ii v1), (0, .ref (ad 45))]) rfl ?_
  refine z_aload_n F dX5_findNearest_5 rfl (q := 1) rfl ?_
  refine z_ldc (x := 1000000) F dX5_findNearest_6 (gin lm_680 rfl) (by decide +kernel) ?_
  refine pf_X5_54 F hI gs_45 rfl bd_45_8 rfl rfl dX5_findNearest_8 (by omega) (by omega) (fun M5 hI sf4 f4 => ?_)
  have hF := hF.wr f4 (by decide) (by decide)
  have hW : WFk M5 := hW.site f4 (by decide)
  refine z_iconst F dX5_findNearest_11 ?_
  refine z_istore_n F dX5_findNearest_12 rfl (by decide) (ls' := [(2, ii 0), (1, ii v1), (0, .ref (ad 45))]) rfl ?_
  refine z_loc [2, 1, 0] (ls' := [(0, .ref (ad 45)), (1, ii v1), (2, ii 0)]) rfl ?_
  suffices key13 : ∀ (n : Nat) (y7 : Int) (M6 : Mem), Inv M6 → WFk M6 → Fr [45, 46, 47, 48] M M6 → 0 ≤ y7 → y7 ≤ 9 → 9 - y7 < (n : Int) → Z D cy ad p l e (RMh 15) s m args below meth c A 3 0 0 Q 13 [(0, .ref (ad 45)), (1, ii v1), (2, ii y7)] [] M6 from key13 10 0 M5 hI hW hF (by omega) (by omega) (by omega)
  intro n13
  induction n13 with
  | zero => intro y7 M6 hI hW hF ay7 by7 hn13; exfalso; omega
  | succ n13 ih13 =>
    intro y7 M6 hI hW hF ay7 by7 hn13
    refine z_iload_n F dX5_findNearest_13 rfl (q := 2) rfl ?_
    refine z_aload_n F dX5_findNearest_14 rfl (q := 0) rfl ?_
    refine rf_X5_21 F gs_45 rfl dX5_findNearest_15 ?_
    refine gf_X5_37 F hI gs_2 rfl bd_2_3 dX5_findNearest_18 (fun v8 ev8 av8 bv8 => ?_)
    refine z_icmp_gt (tgt := 57) F dX5_findNearest_21 (by decide +kernel) (by omega) (by omega) (fun c9 => ?_) (fun c9 => ?_)
    · refine z_iconst F dX5_findNearest_57 ?_
      exact hret _ _ 58 _ ⟨by omega, by omega⟩ ⟨hI, hW⟩ ⟨⟨by omega, by omega⟩, hF⟩ dX5_findNearest_58
    · refine z_iload_n F dX5_findNearest_24 rfl (q := 1) rfl ?_
      refine z_if_eq (tgt := 57) F dX5_findNearest_25 (by decide +kernel) (by omega) (fun c10 => ?_) (fun c10 => ?_)
      · refine z_iconst F dX5_findNearest_57 ?_
        exact hret _ _ 58 _ ⟨by omega, by omega⟩ ⟨hI, hW⟩ ⟨⟨by omega, by omega⟩, hF⟩ dX5_findNearest_58
      · refine z_aload_n F dX5_findNearest_28 rfl (q := 0) rfl ?_
        refine z_iconst F dX5_findNearest_29 ?_
        refine z_iload_n F dX5_findNearest_30 rfl (q := 2) rfl ?_
        refine z_iconst F dX5_findNearest_31 ?_
        refine zv_v (rest := []) F (k_X5_seek_45 l 9 M6 ⟨hI, hW⟩ 0 (by omega) (by omega) y7 (by omega) (by omega) 0 (by omega) (by omega) (by omega)) cs_X5_57 (T := TX5) (N := 9) (ci := 5) rfl gs_45 (by decide) (by decide) rfl rfl rfl (Nat.le_of_ble_eq_true rfl) dX5_findNearest_32 (fun M11 hI p12 => ?_)
        obtain ⟨hI, hW⟩ := hI
        have fp12 := p12
        have hF := hF.call fp12 (by decide)
        refine z_aload_n F dX5_findNearest_35 rfl (q := 0) rfl ?_
        refine gf_X5_54 F hI gs_45 rfl bd_45_8 dX5_findNearest_36 (fun v13 ev13 av13 bv13 => ?_)
        refine z_ldc (x := 1000000) F dX5_findNearest_39 (gin lm_680 rfl) (by decide +kernel) ?_
        refine z_icmp_eq (tgt := 51) F dX5_findNearest_41 (by decide +kernel) (by omega) (by omega) (fun c14 => ?_) (fun c14 => ?_)
        · refine z_iincN F dX5_findNearest_51 (q := 2) rfl (by decide) (fun v15 ev15 => ?_)
          refine z_eq (ls' := [(2, ii v15), (0, .ref (ad 45)), (1, ii v1)]) rfl rfl rfl ?_
          refine z_goto (tgt := 13) F dX5_findNearest_54 (by decide +kernel) ?_
          refine z_loc [1, 2, 0] (ls' := [(0, .ref (ad 45)), (1, ii v1), (2, ii v15)]) rfl ?_
          exact ih13 v15 M11 hI hW hF (by omega) (by omega) (by omega)
        · refine z_aload_n F dX5_findNearest_44 rfl (q := 0) rfl ?_
          refine z_iload_n F dX5_findNearest_45 rfl (q := 2) rfl ?_
          refine pf_X5_61 F hI gs_45 rfl bd_45_7 rfl rfl dX5_findNearest_46 (by omega) (by omega) (fun M17 hI sf16 f16 => ?_)
          have hF := hF.wr f16 (by decide) (by decide)
          have hW : WFk M17 := hW.site f16 (by decide)
          refine z_iconst F dX5_findNearest_49 ?_
          exact hret _ _ 50 _ ⟨by omega, by omega⟩ ⟨hI, hW⟩ ⟨⟨by omega, by omega⟩, hF⟩ dX5_findNearest_50
set_option maxRecDepth 4000 in
theorem k_X11_needWhatOrPart (l : Launch) (hlT : l.stackTraces = false) (M : Mem) (hJ : Iw M) (x0 : Int) (hx0a : (-2147483648) ≤ x0) (hx0b : x0 ≤ 2147483647) (x1 : Int) (hx1a : (-2147483648) ≤ x1) (hx1b : x1 ≤ 2147483647) : CVX l yX11_needWhatOrPart cX11_needWhatOrPart 2 none 1 1 (fun ad => [ii x0, ii x1]) M (fun M' => M = M' ∧ (x0 = 0 ∨ 10 ≤ x0 ∧ x0 < 10 + x1)) (fun E M' => (E = "java/lang/IllegalArgumentException" ∧ True ∧ M = M')) := by
  obtain ⟨hI, hW⟩ := hJ
  refine enx_v (by decide +kernel) (fun ad => by exact Nat.le_of_ble_eq_true rfl) (fun D cy ad A p e s m args below meth c Q F hQ hr hlk hex => ?_)
  refine z_eq (ls' := [(0, ii x0), (1, ii x1)]) rfl rfl rfl ?_
  refine z_iload_n F dX11_needWhatOrPart_0 rfl (q := 0) rfl ?_
  refine z_if_eq (tgt := 28) F dX11_needWhatOrPart_1 (by decide +kernel) (by omega) (fun c1 => ?_) (fun c1 => ?_)
  · exact zxr_v F hQ hr hlk dX11_needWhatOrPart_28 ⟨by decide, by decide⟩ ⟨hI, hW⟩ ⟨rfl, (by omega)⟩
  · refine z_iload_n F dX11_needWhatOrPart_4 rfl (q := 0) rfl ?_
    refine z_bipush F dX11_needWhatOrPart_5 (by decide +kernel) ?_
    refine z_icmp_lt (tgt := 18) F dX11_needWhatOrPart_7 (by decide +kernel) (by omega) (by omega) (fun c2 => ?_) (fun c2 => ?_)
    · exact z_thrS (cls := "java/lang/IllegalArgumentException") (names := ["java/lang/RuntimeException", "java/lang/Exception"]) (j := 39) F hlT hQ hlk hex (by decide +kernel) (by decide +kernel) (by decide) (gin lm_360 rfl) (gin lm_361 rfl) at_X11_105 bad_X11_105 (by decide +kernel) ot_X11_105 rfl rfl rfl dX11_needWhatOrPart_18 dX11_needWhatOrPart_21 dX11_needWhatOrPart_22 dX11_needWhatOrPart_24 dX11_needWhatOrPart_27 ⟨by decide, by decide⟩ (Nat.le_of_ble_eq_true rfl) ⟨hI, hW⟩ (⟨rfl, trivial, rfl⟩)
    · refine z_iload_n F dX11_needWhatOrPart_10 rfl (q := 0) rfl ?_
      refine z_bipush F dX11_needWhatOrPart_11 (by decide +kernel) ?_
      refine z_iload_n F dX11_needWhatOrPart_13 rfl (q := 1) rfl ?_
      refine z_iadd F dX11_needWhatOrPart_14 ?_
      refine z_wrap (fun v3 rv3 wv3 => ?_)
      refine z_icmp_lt (tgt := 28) F dX11_needWhatOrPart_15 (by decide +kernel) (by omega) (by omega) (fun c4 => ?_) (fun c4 => ?_)
      · exact zxr_v F hQ hr hlk dX11_needWhatOrPart_28 ⟨by decide, by decide⟩ ⟨hI, hW⟩ ⟨rfl, (by omega)⟩
      · exact z_thrS (cls := "java/lang/IllegalArgumentException") (names := ["java/lang/RuntimeException", "java/lang/Exception"]) (j := 39) F hlT hQ hlk hex (by decide +kernel) (by decide +kernel) (by decide) (gin lm_360 rfl) (gin lm_361 rfl) at_X11_105 bad_X11_105 (by decide +kernel) ot_X11_105 rfl rfl rfl dX11_needWhatOrPart_18 dX11_needWhatOrPart_21 dX11_needWhatOrPart_22 dX11_needWhatOrPart_24 dX11_needWhatOrPart_27 ⟨by decide, by decide⟩ (Nat.le_of_ble_eq_true rfl) ⟨hI, hW⟩ (⟨rfl, trivial, rfl⟩)
set_option maxRecDepth 4000 in
theorem k_X11_mending (l : Launch) (hlT : l.stackTraces = false) (M : Mem) (hJ : Iw M) (x0 : Int) (hx0a : (-2147483648) ≤ x0) (hx0b : x0 ≤ 2147483647) : CIX l yX11_mending cX11_mending 2 (some .int) 16 1 (fun ad => [.ref (ad 0), ii x0]) M (fun z M' => ((-2147483648) ≤ z ∧ z ≤ 2147483647) ∧ Fr [45, 46, 47, 48] M M') (fun E M' => (E = "java/lang/IllegalArgumentException" ∧ True ∧ Fr [45, 46, 47, 48] M M')) := by
  obtain ⟨hI, hW⟩ := hJ
  have hF : Fr [45, 46, 47, 48] M M := Fr.rf
  refine enx_i (by decide +kernel) (fun ad => by exact Nat.le_of_ble_eq_true rfl) (fun D cy ad A p e s m args below meth c Q F hQ hr hlk hex => ?_)
  refine z_eq (ls' := [(0, .ref (ad 0)), (1, ii x0)]) rfl rfl rfl ?_
  refine z_iload_n F dX11_mending_0 rfl (q := 1) rfl ?_
  refine z_iconst F dX11_mending_1 ?_
  refine z_icmp_eq (tgt := 16) F dX11_mending_2 (by decide +kernel) (by omega) (by omega) (fun c1 => ?_) (fun c1 => ?_)
  · refine z_aload_n F dX11_mending_16 rfl (q := 0) rfl ?_
    refine rf_X11_66 F gs_0 rfl dX11_mending_17 ?_
    refine zw_i (rest := []) F (k_X5_findNearest_45 l M ⟨hI, hW⟩) cs_X11_333 (T := TX5) (N := 9) (ci := 5) rfl gs_45 (by decide) (by decide) ⟨by decide, by decide⟩ rfl rfl rfl (Nat.le_of_ble_eq_true rfl) dX11_mending_20 (fun v2 M3 rv2 hI p4 => ?_)
    obtain ⟨hI, hW⟩ := hI
    obtain ⟨⟨av2, bv2⟩, fp4⟩ := p4
    have hF := hF.call fp4 (by decide)
    refine z_if_ne (tgt := 28) F dX11_mending_23 (by decide +kernel) (by omega) (fun c5 => ?_) (fun c5 => ?_)
    · refine z_iload_n F dX11_mending_28 rfl (q := 1) rfl ?_
      refine z_if_ne (tgt := 40) F dX11_mending_29 (by decide +kernel) (by omega) (fun c6 => ?_) (fun c6 => by exfalso; omega)
      refine z_iload_n F dX11_mending_40 rfl (q := 1) rfl ?_
      refine z_iconst F dX11_mending_41 ?_
      refine z_icmp_ne (tgt := 55) F dX11_mending_42 (by decide +kernel) (by omega) (by omega) (fun c7 => by exfalso; omega) (fun c7 => ?_)
      refine z_aload_n F dX11_mending_45 rfl (q := 0) rfl ?_
      refine rf_X11_66 F gs_0 rfl dX11_mending_46 ?_
      refine gf_X11_339 F hI gs_45 rfl bd_45_8 dX11_mending_49 (fun v8 ev8 av8 bv8 => ?_)
      refine z_goto (tgt := 67) F dX11_mending_52 (by decide +kernel) ?_
      exact zxr_i F hQ hr hlk dX11_mending_67 ⟨by decide, by decide⟩ (by omega) ⟨hI, hW⟩ ⟨⟨by omega, by omega⟩, hF⟩
    · refine z_iconst F dX11_mending_26 ?_
      exact zxr_i F hQ hr hlk dX11_mending_27 ⟨by decide, by decide⟩ (by omega) ⟨hI, hW⟩ ⟨⟨by omega, by omega⟩, hF⟩
  · refine z_iload_n F dX11_mending_5 rfl (q := 1) rfl ?_
    refine z_aload_n F dX11_mending_6 rfl (q := 0) rfl ?_
    refine rf_X11_16 F gs_0 rfl dX11_mending_7 ?_
    refine gf_X11_286 F hI gs_2 rfl bd_2_3 dX11_mending_10 (fun v9 ev9 av9 bv9 => ?_)
    refine zz_v (rest := []) F (k_X11_needWhatOrPart l hlT M ⟨hI, hW⟩ x0 (by omega) (by omega) v9 (by omega) (by omega)) cs_X11_330 (by decide) (by decide) ⟨by decide, by decide⟩ rfl rfl rfl (Nat.le_of_ble_eq_true rfl) dX11_mending_13 (fun E M9 hJ9 hx => by obtain ⟨h9, g9, rfl⟩ := hx <;> first | (exact zx_out hQ hlk hex ⟨by decide, by decide⟩ hJ9 (⟨h9, trivial, hF⟩))) (fun M10 hI p11 => ?_)
    obtain ⟨hI, hW⟩ := hI
    obtain ⟨rfl, xp11⟩ := p11
    refine z_aload_n F dX11_mending_16 rfl (q := 0) rfl ?_
    refine rf_X11_66 F gs_0 rfl dX11_mending_17 ?_
    refine zw_i (rest := []) F (k_X5_findNearest_45 l M ⟨hI, hW⟩) cs_X11_333 (T := TX5) (N := 9) (ci := 5) rfl gs_45 (by decide) (by decide) ⟨by decide, by decide⟩ rfl rfl rfl (Nat.le_of_ble_eq_true rfl) dX11_mending_20 (fun v12 M13 rv12 hI p14 => ?_)
    obtain ⟨hI, hW⟩ := hI
    obtain ⟨⟨av12, bv12⟩, fp14⟩ := p14
    have hF := hF.call fp14 (by decide)
    refine z_if_ne (tgt := 28) F dX11_mending_23 (by decide +kernel) (by omega) (fun c15 => ?_) (fun c15 => ?_)
    · refine z_iload_n F dX11_mending_28 rfl (q := 1) rfl ?_
      refine z_if_ne (tgt := 40) F dX11_mending_29 (by decide +kernel) (by omega) (fun c16 => ?_) (fun c16 => ?_)
      · refine z_iload_n F dX11_mending_40 rfl (q := 1) rfl ?_
        refine z_iconst F dX11_mending_41 ?_
        refine z_icmp_ne (tgt := 55) F dX11_mending_42 (by decide +kernel) (by omega) (by omega) (fun c17 => ?_) (fun c17 => ?_)
        · refine z_aload_n F dX11_mending_55 rfl (q := 0) rfl ?_
          refine rf_X11_66 F gs_0 rfl dX11_mending_56 ?_
          refine rf_X11_342 F gs_45 rfl dX11_mending_59 ?_
          refine z_iload_n F dX11_mending_62 rfl (q := 1) rfl ?_
          refine z_bipush F dX11_mending_63 (by decide +kernel) ?_
          refine z_isub F dX11_mending_65 ?_
          refine z_wrap (fun v18 rv18 wv18 => ?_)
          have k19 : 0 ≤ v18 ∧ v18 ≤ 7 := by omega
          refine z_iald F hI gs_48 (by omega) (by omega) (by decide) bd_48 dX11_mending_66 (fun v20 (ev20 : v20 = M13 48 _) av20 bv20 => ?_)
          exact zxr_i F hQ hr hlk dX11_mending_67 ⟨by decide, by decide⟩ (by omega) ⟨hI, hW⟩ ⟨⟨by omega, by omega⟩, hF⟩
        · refine z_aload_n F dX11_mending_45 rfl (q := 0) rfl ?_
          refine rf_X11_66 F gs_0 rfl dX11_mending_46 ?_
          refine gf_X11_339 F hI gs_45 rfl bd_45_8 dX11_mending_49 (fun v21 ev21 av21 bv21 => ?_)
          refine z_goto (tgt := 67) F dX11_mending_52 (by decide +kernel) ?_
          exact zxr_i F hQ hr hlk dX11_mending_67 ⟨by decide, by decide⟩ (by omega) ⟨hI, hW⟩ ⟨⟨by omega, by omega⟩, hF⟩
      · refine z_aload_n F dX11_mending_32 rfl (q := 0) rfl ?_
        refine rf_X11_66 F gs_0 rfl dX11_mending_33 ?_
        refine gf_X11_336 F hI gs_45 rfl bd_45_7 dX11_mending_36 (fun v22 ev22 av22 bv22 => ?_)
        exact zxr_i F hQ hr hlk dX11_mending_39 ⟨by decide, by decide⟩ (by omega) ⟨hI, hW⟩ ⟨⟨by omega, by omega⟩, hF⟩
    · refine z_iconst F dX11_mending_26 ?_
      exact zxr_i F hQ hr hlk dX11_mending_27 ⟨by decide, by decide⟩ (by omega) ⟨hI, hW⟩ ⟨⟨by omega, by omega⟩, hF⟩
set_option maxRecDepth 4000 in
theorem k_X7_lieAs_35_48 (l : Launch) (M : Mem) (hJ : Iw M) : CV l yX7_lieAs cX7_lieAs 2 none 1 (fun ad => [.ref (ad 35), .ref (ad 48)]) M (fun M' => Fr [36] M M') := by
  obtain ⟨hI, hW⟩ := hJ
  have hF : Fr [36] M M := Fr.rf
  refine en_v (by decide +kernel) (fun ad => by exact Nat.le_of_ble_eq_true rfl) (fun D cy ad A p e s m args below meth c Q F hret => ?_)
  refine z_eq (ls' := [(0, .ref (ad 35)), (1, .ref (ad 48))]) rfl rfl rfl ?_
  refine z_aload_n F dX7_lieAs_0 rfl (q := 1) rfl ?_
  refine z_iconst F dX7_lieAs_1 ?_
  refine z_aload_n F dX7_lieAs_2 rfl (q := 0) rfl ?_
  refine rf_X7_9 F gs_35 rfl dX7_lieAs_3 ?_
  refine z_iconst F dX7_lieAs_6 ?_
  refine z_aload_n F dX7_lieAs_7 rfl (q := 1) rfl ?_
  refine z_alen (x := 8) F gs_48 rfl rfl dX7_lieAs_8 ?_
  refine z_aload_n F dX7_lieAs_9 rfl (q := 0) rfl ?_
  refine rf_X7_24 F gs_35 rfl dX7_lieAs_10 ?_
  refine gf_X7_28 F hI gs_2 rfl bd_2_3 dX7_lieAs_13 (fun v1 ev1 av1 bv1 => ?_)
  refine z_min F mm_X7_56 (Nat.le_of_ble_eq_true rfl) dX7_lieAs_16 (by omega) (by omega) (fun v2 ev2 => ?_)
  refine z_copy F (by decide) ac_X7_50 hI gs_48 gs_36 (by omega) (by omega) (by omega) (by omega) (by omega) (by decide) (by decide) (fun i hi => rfl) (Nat.le_of_ble_eq_true rfl) dX7_lieAs_19 (fun M4 hI g3 => ?_)
  have hF := hF.call g3 (by decide)
  have hW : WFk M4 := hW.fr g3 (by decide) (by decide)
  exact hret _ 22 _ ⟨hI, hW⟩ hF dX7_lieAs_22
set_option maxRecDepth 4000 in
theorem k_X11_mend (l : Launch) (hlT : l.stackTraces = false) (M : Mem) (hJ : Iw M) : CIX l yX11_mend cX11_mend 1 (some .int) 16 1 (fun ad => [.ref (ad 0)]) M (fun z M' => ((-2147483648) ≤ z ∧ z ≤ 2147483647) ∧ Fr [36, 40, 41, 45, 46, 47, 48] M M') (fun E M' => (E = "java/lang/IllegalStateException" ∧ True ∧ Fr [36, 40, 41, 45, 46, 47, 48] M M')) := by
  obtain ⟨hI, hW⟩ := hJ
  have hF : Fr [36, 40, 41, 45, 46, 47, 48] M M := Fr.rf
  refine enx_i (by decide +kernel) (fun ad => by exact Nat.le_of_ble_eq_true rfl) (fun D cy ad A p e s m args below meth c Q F hQ hr hlk hex => ?_)
  refine z_eq (ls' := [(0, .ref (ad 0))]) rfl rfl rfl ?_
  refine z_aload_n F dX11_mend_0 rfl (q := 0) rfl ?_
  refine rf_X11_66 F gs_0 rfl dX11_mend_1 ?_
  refine zw_i (rest := []) F (k_X5_findNearest_45 l M ⟨hI, hW⟩) cs_X11_333 (T := TX5) (N := 9) (ci := 5) rfl gs_45 (by decide) (by decide) ⟨by decide, by decide⟩ rfl rfl rfl (Nat.le_of_ble_eq_true rfl) dX11_mend_4 (fun v1 M2 rv1 hI p3 => ?_)
  obtain ⟨hI, hW⟩ := hI
  obtain ⟨⟨av1, bv1⟩, fp3⟩ := p3
  have hF := hF.call fp3 (by decide)
  refine z_if_ne (tgt := 21) F dX11_mend_7 (by decide +kernel) (by omega) (fun c4 => ?_) (fun c4 => ?_)
  · refine z_aload_n F dX11_mend_21 rfl (q := 0) rfl ?_
    refine rf_X11_41 F gs_0 rfl dX11_mend_22 ?_
    refine z_aload_n F dX11_mend_25 rfl (q := 0) rfl ?_
    refine rf_X11_34 F gs_0 rfl dX11_mend_26 ?_
    refine zw_v (rest := []) F (k_X4_keep_40_35 l M2 ⟨hI, hW⟩) cs_X11_217 (T := TX4) (N := 3) (ci := 4) rfl gs_40 (by decide) (by decide) ⟨by decide, by decide⟩ rfl rfl rfl (Nat.le_of_ble_eq_true rfl) dX11_mend_29 (fun M5 hI p6 => ?_)
    obtain ⟨hI, hW⟩ := hI
    have fp6 := p6
    have hF := hF.call fp6 (by decide)
    refine z_aload_n F dX11_mend_32 rfl (q := 0) rfl ?_
    refine rf_X11_34 F gs_0 rfl dX11_mend_33 ?_
    refine z_aload_n F dX11_mend_36 rfl (q := 0) rfl ?_
    refine rf_X11_66 F gs_0 rfl dX11_mend_37 ?_
    refine rf_X11_342 F gs_45 rfl dX11_mend_40 ?_
    refine zw_v (rest := []) F (k_X7_lieAs_35_48 l M5 ⟨hI, hW⟩) cs_X11_347 (T := TX7) (N := 7) (ci := 7) rfl gs_35 (by decide) (by decide) ⟨by decide, by decide⟩ rfl rfl rfl (Nat.le_of_ble_eq_true rfl) dX11_mend_43 (fun M7 hI p8 => ?_)
    obtain ⟨hI, hW⟩ := hI
    have fp8 := p8
    have hF := hF.call fp8 (by decide)
    refine z_aload_n F dX11_mend_46 rfl (q := 0) rfl ?_
    refine rf_X11_66 F gs_0 rfl dX11_mend_47 ?_
    refine gf_X11_336 F hI gs_45 rfl bd_45_7 dX11_mend_50 (fun v9 ev9 av9 bv9 => ?_)
    exact zxr_i F hQ hr hlk dX11_mend_53 ⟨by decide, by decide⟩ (by omega) ⟨hI, hW⟩ ⟨⟨by omega, by omega⟩, hF⟩
  · exact z_thrSW (cls := "java/lang/IllegalStateException") (names := ["java/lang/RuntimeException", "java/lang/Exception"]) (j := 43) F hlT hQ hlk hex (by decide +kernel) (by decide +kernel) (by decide) (gin lm_530 rfl) (gin lm_531 rfl) at_X11_293 bad_X11_293 (by decide +kernel) ot_X11_293 rfl rfl rfl dX11_mend_10 dX11_mend_13 dX11_mend_14 dX11_mend_17 dX11_mend_20 ⟨by decide, by decide⟩ (Nat.le_of_ble_eq_true rfl) ⟨hI, hW⟩ (⟨rfl, trivial, hF⟩)
set_option maxRecDepth 4000 in
theorem k_X0_touchEachOther_49 (l : Launch) (M : Mem) (hJ : Iw M) (x0 : Int) (hx0a : 0 ≤ x0) (hx0b : x0 ≤ 7) (x1 : Int) (hx1a : 0 ≤ x1) (hx1b : x1 ≤ 7) : CI l yX0_touchEachOther cX0_touchEachOther 3 (some .boolean) 2 (fun ad => [.ref (ad 49), ii x0, ii x1]) M (fun z M' => (0 ≤ z ∧ z ≤ 1) ∧ M = M') := by
  obtain ⟨hI, hW⟩ := hJ
  refine en_z (by decide +kernel) (fun ad => by exact Nat.le_of_ble_eq_true rfl) (fun D cy ad A p e s m args below meth c Q F hret => ?_)
  refine z_eq (ls' := [(0, .ref (ad 49)), (1, ii x0), (2, ii x1)]) rfl rfl rfl ?_
  refine z_aload_n F dX0_touchEachOther_0 rfl (q := 0) rfl ?_
  refine rf_X0_34 F gs_49 rfl dX0_touchEachOther_1 ?_
  refine rf_X0_42 F gs_2 rfl dX0_touchEachOther_4 ?_
  refine z_aload_n F dX0_touchEachOther_7 rfl (q := 0) rfl ?_
  refine rf_X0_38 F gs_49 rfl dX0_touchEachOther_8 ?_
  refine rf_X0_47 F gs_35 rfl dX0_touchEachOther_11 ?_
  refine z_iload_n F dX0_touchEachOther_14 rfl (q := 1) rfl ?_
  refine z_iald F hI gs_36 (by omega) (by omega) (by decide) bd_36 dX0_touchEachOther_15 (fun v1 (ev1 : v1 = M 36 _) av1 bv1 => ?_)
  refine z_iald F hI gs_3 (by omega) (by omega) (by decide) bd_3 dX0_touchEachOther_16 (fun v2 (ev2 : v2 = M 3 _) av2 bv2 => ?_)
  refine z_aload_n F dX0_touchEachOther_17 rfl (q := 0) rfl ?_
  refine rf_X0_38 F gs_49 rfl dX0_touchEachOther_18 ?_
  refine rf_X0_47 F gs_35 rfl dX0_touchEachOther_21 ?_
  refine z_iload_n F dX0_touchEachOther_24 rfl (q := 2) rfl ?_
  refine z_iald F hI gs_36 (by omega) (by omega) (by decide) bd_36 dX0_touchEachOther_25 (fun v3 (ev3 : v3 = M 36 _) av3 bv3 => ?_)
  refine zn_i (rest := []) F (k_X11_isIn l M ⟨hI, hW⟩ v2 (by omega) (by omega) v3 (by omega) (by omega)) cs_X0_52 (by decide) (by decide) rfl rfl rfl (Nat.le_of_ble_eq_true rfl) dX0_touchEachOther_26 (fun v4 M5 rv4 hI p6 => ?_)
  obtain ⟨hI, hW⟩ := hI
  obtain ⟨⟨av4, bv4⟩, rfl, xp6⟩ := p6
  have hbqv3 := xp6
  exact hret _ _ 29 _ ⟨by omega, by omega⟩ ⟨hI, hW⟩ ⟨⟨by omega, by omega⟩, rfl⟩ dX0_touchEachOther_29
set_option maxRecDepth 4000 in
theorem k_X0_flipped (l : Launch) (M : Mem) (hJ : Iw M) (x0 : Int) (hx0a : (-2147483648) ≤ x0) (hx0b : x0 ≤ 2147483647) (x1 : Int) (hx1a : (-2147483648) ≤ x1) (hx1b : x1 ≤ 2147483647) : CI l yX0_flipped cX0_flipped 4 (some .int) 1 (fun ad => [ii x0, ii x1]) M (fun z M' => ((-2147483648) ≤ z ∧ z ≤ 2147483647) ∧ M = M') := by
  obtain ⟨hI, hW⟩ := hJ
  refine en_i (by decide +kernel) (fun ad => by exact Nat.le_of_ble_eq_true rfl) (fun D cy ad A p e s m args below meth c Q F hret => ?_)
  refine z_eq (ls' := [(0, ii x0), (1, ii x1)]) rfl rfl rfl ?_
  refine z_iload_n F dX0_flipped_0 rfl (q := 0) rfl ?_
  refine z_istore_n F dX0_flipped_1 rfl (by decide) (ls' := [(2, ii x0), (0, ii x0), (1, ii x1)]) rfl ?_
  refine z_iconst F dX0_flipped_2 ?_
  refine z_istore_n F dX0_flipped_3 rfl (by decide) (ls' := [(3, ii 0), (2, ii x0), (0, ii x0), (1, ii x1)]) rfl ?_
  refine z_loc [3, 1, 0] (ls' := [(1, ii x1), (2, ii x0), (3, ii 0)]) rfl ?_
  suffices key4 : ∀ (n : Nat) (y2 : Int) (y3 : Int), (-2147483648) ≤ y2 → y2 ≤ 2147483647 → 0 ≤ y3 → y3 ≤ 2147483647 → 2147483647 - y3 < (n : Int) → Z D cy ad p l e (RMh 1) s m args below meth c A 4 0 0 Q 4 [(1, ii x1), (2, ii y2), (3, ii y3)] [] M from key4 2147483648 x0 0 (by omega) (by omega) (by omega) (by omega) (by omega)
  intro n4
  induction n4 with
  | zero => intro y2 y3 ay2 by2 ay3 by3 hn4; exfalso; omega
  | succ n4 ih4 =>
    intro y2 y3 ay2 by2 ay3 by3 hn4
    refine z_iload_n F dX0_flipped_4 rfl (q := 2) rfl ?_
    refine z_iload_n F dX0_flipped_5 rfl (q := 0) rfl ?_
    refine z_icmp_ge (tgt := 31) F dX0_flipped_6 (by decide +kernel) (by omega) (by omega) (fun c4 => ?_) (fun c4 => ?_)
    · refine z_iload_n F dX0_flipped_31 rfl (q := 1) rfl ?_
      exact hret _ _ 32 _ (by omega) ⟨hI, hW⟩ ⟨⟨by omega, by omega⟩, rfl⟩ dX0_flipped_32
    · refine z_iload_n F dX0_flipped_9 rfl (q := 1) rfl ?_
      refine z_bipush F dX0_flipped_10 (by decide +kernel) ?_
      refine z_icmp_ne (tgt := 21) F dX0_flipped_12 (by decide +kernel) (by omega) (by omega) (fun c5 => ?_) (fun c5 => ?_)
      · refine z_iload_n F dX0_flipped_21 rfl (q := 1) rfl ?_
        refine z_iconst F dX0_flipped_22 ?_
        refine z_iadd F dX0_flipped_23 ?_
        refine z_wrap (fun v6 rv6 wv6 => ?_)
        refine z_istore_n F dX0_flipped_24 rfl (by decide) (ls' := [(2, ii v6), (1, ii x1), (3, ii y3)]) rfl ?_
        refine z_iincN F dX0_flipped_25 (q := 2) rfl (by decide) (fun v7 ev7 => ?_)
        refine z_eq (ls' := [(3, ii v7), (2, ii v6), (1, ii x1)]) rfl rfl rfl ?_
        refine z_goto (tgt := 4) F dX0_flipped_28 (by decide +kernel) ?_
        refine z_loc [2, 1, 0] (ls' := [(1, ii x1), (2, ii v6), (3, ii v7)]) rfl ?_
        exact ih4 v6 v7 (by omega) (by omega) (by omega) (by omega) (by omega)
      · refine z_iload_n F dX0_flipped_15 rfl (q := 1) rfl ?_
        refine z_iconst F dX0_flipped_16 ?_
        refine z_isub F dX0_flipped_17 ?_
        refine z_goto (tgt := 24) F dX0_flipped_18 (by decide +kernel) ?_
        refine z_nm (fun v8 ev8 => ?_)
        refine z_istore_n F dX0_flipped_24 rfl (by decide) (ls' := [(2, ii v8), (1, ii x1), (3, ii y3)]) rfl ?_
        refine z_iincN F dX0_flipped_25 (q := 2) rfl (by decide) (fun v9 ev9 => ?_)
        refine z_eq (ls' := [(3, ii v9), (2, ii v8), (1, ii x1)]) rfl rfl rfl ?_
        refine z_goto (tgt := 4) F dX0_flipped_28 (by decide +kernel) ?_
        refine z_loc [2, 1, 0] (ls' := [(1, ii x1), (2, ii v8), (3, ii v9)]) rfl ?_
        exact ih4 v8 v9 (by omega) (by omega) (by omega) (by omega) (by omega)
set_option maxRecDepth 4000 in
theorem k_X0_rub_49 (l : Launch) (M : Mem) (hJ : Iw M) (x0 : Int) (hx0a : 0 ≤ x0) (hx0b : x0 ≤ 7) (x1 : Int) (hx1a : 0 ≤ x1) (hx1b : x1 ≤ 7) (x2 : Int) (hx2a : (-2147483648) ≤ x2) (hx2b : x2 ≤ 2147483647) (x3 : Int) (hx3a : (-2147483648) ≤ x3) (hx3b : x3 ≤ 2147483647) : CI l yX0_rub cX0_rub 6 (some .boolean) 4 (fun ad => [.ref (ad 49), ii x0, ii x1, ii x2, ii x3]) M (fun z M' => (0 ≤ z ∧ z ≤ 1) ∧ Fr [16, 17] M M') := by
  obtain ⟨hI, hW⟩ := hJ
  have hF : Fr [16, 17] M M := Fr.rf
  refine en_z (by decide +kernel) (fun ad => by exact Nat.le_of_ble_eq_true rfl) (fun D cy ad A p e s m args below meth c Q F hret => ?_)
  refine z_eq (ls' := [(0, .ref (ad 49)), (1, ii x0), (2, ii x1), (3, ii x2), (4, ii x3)]) rfl rfl rfl ?_
  refine z_aload_n F dX0_rub_0 rfl (q := 0) rfl ?_
  refine rf_X0_34 F gs_49 rfl dX0_rub_1 ?_
  refine rf_X0_56 F gs_2 rfl dX0_rub_4 ?_
  refine z_aload_n F dX0_rub_7 rfl (q := 0) rfl ?_
  refine rf_X0_38 F gs_49 rfl dX0_rub_8 ?_
  refine rf_X0_47 F gs_35 rfl dX0_rub_11 ?_
  refine z_iload_n F dX0_rub_14 rfl (q := 1) rfl ?_
  refine z_iald F hI gs_36 (by omega) (by omega) (by decide) bd_36 dX0_rub_15 (fun v1 (ev1 : v1 = M 36 _) av1 bv1 => ?_)
  refine z_iald F hI gs_4 (by omega) (by omega) (by decide) bd_4 dX0_rub_16 (fun v2 (ev2 : v2 = M 4 _) av2 bv2 => ?_)
  refine z_aload_n F dX0_rub_17 rfl (q := 0) rfl ?_
  refine rf_X0_38 F gs_49 rfl dX0_rub_18 ?_
  refine rf_X0_47 F gs_35 rfl dX0_rub_21 ?_
  refine z_iload_n F dX0_rub_24 rfl (q := 2) rfl ?_
  refine z_iald F hI gs_36 (by omega) (by omega) (by decide) bd_36 dX0_rub_25 (fun v3 (ev3 : v3 = M 36 _) av3 bv3 => ?_)
  refine zn_i (rest := []) F (k_X11_isIn l M ⟨hI, hW⟩ v2 (by omega) (by omega) v3 (by omega) (by omega)) cs_X0_52 (by decide) (by decide) rfl rfl rfl (Nat.le_of_ble_eq_true rfl) dX0_rub_26 (fun v4 M5 rv4 hI p6 => ?_)
  obtain ⟨hI, hW⟩ := hI
  obtain ⟨⟨av4, bv4⟩, rfl, xp6⟩ := p6
  have hbqv3 := xp6
  refine z_istore F dX0_rub_29 (by decide) (ls' := [(5, ii v4), (0, .ref (ad 49)), (1, ii x0), (2, ii x1), (3, ii x2), (4, ii x3)]) rfl ?_
  refine z_aload_n F dX0_rub_31 rfl (q := 1) rfl ?_
  refine rf_X0_34 F gs_49 rfl dX0_rub_32 ?_
  refine rf_X0_59 F gs_2 rfl dX0_rub_35 ?_
  refine z_iload_n F dX0_rub_38 rfl (q := 4) rfl ?_
  refine z_iload F dX0_rub_39 (q := 5) rfl ?_
  refine z_aload_n F dX0_rub_41 rfl (q := 1) rfl ?_
  refine rf_X0_34 F gs_49 rfl dX0_rub_42 ?_
  refine rf_X0_63 F gs_2 rfl dX0_rub_45 ?_
  refine z_iload_n F dX0_rub_48 rfl (q := 2) rfl ?_
  refine z_iald F hI gs_8 (by omega) (by omega) (by decide) bd_8 dX0_rub_49 (fun v7 (ev7 : v7 = M 8 _) av7 bv7 => ?_)
  refine z_aload_n F dX0_rub_50 rfl (q := 1) rfl ?_
  refine rf_X0_34 F gs_49 rfl dX0_rub_51 ?_
  refine rf_X0_63 F gs_2 rfl dX0_rub_54 ?_
  refine z_iload_n F dX0_rub_57 rfl (q := 3) rfl ?_
  refine z_iald F hI gs_8 (by omega) (by omega) (by decide) bd_8 dX0_rub_58 (fun v8 (ev8 : v8 = M 8 _) av8 bv8 => ?_)
  refine z_icmp_ne (tgt := 66) F dX0_rub_59 (by decide +kernel) (by omega) (by omega) (fun c9 => ?_) (fun c9 => ?_)
  · refine z_iconst F dX0_rub_66 ?_
    refine z_iload F dX0_rub_67 (q := 0) rfl ?_
    refine zv_i (rest := []) F (k_X2_forbids_14 l M ⟨hI, hW⟩ x2 (by omega) (by omega) x3 (by omega) (by omega) 0 (by omega) (by omega) v4 (by omega) (by omega)) cs_X0_66 (T := TX2) (N := 5) (ci := 2) rfl gs_14 (by decide) (by decide) rfl rfl rfl (Nat.le_of_ble_eq_true rfl) dX0_rub_69 (fun v10 M11 rv10 hI p12 => ?_)
    obtain ⟨hI, hW⟩ := hI
    obtain ⟨⟨av10, bv10⟩, fp12⟩ := p12
    have hF := hF.call fp12 (by decide)
    exact hret _ _ 72 _ ⟨by omega, by omega⟩ ⟨hI, hW⟩ ⟨⟨by omega, by omega⟩, hF⟩ dX0_rub_72
  · refine z_iconst F dX0_rub_62 ?_
    refine z_goto (tgt := 67) F dX0_rub_63 (by decide +kernel) ?_
    refine z_iload F dX0_rub_67 (q := 0) rfl ?_
    refine zv_i (rest := []) F (k_X2_forbids_14 l M ⟨hI, hW⟩ x2 (by omega) (by omega) x3 (by omega) (by omega) 1 (by omega) (by omega) v4 (by omega) (by omega)) cs_X0_66 (T := TX2) (N := 5) (ci := 2) rfl gs_14 (by decide) (by decide) rfl rfl rfl (Nat.le_of_ble_eq_true rfl) dX0_rub_69 (fun v13 M14 rv13 hI p15 => ?_)
    obtain ⟨hI, hW⟩ := hI
    obtain ⟨⟨av13, bv13⟩, fp15⟩ := p15
    have hF := hF.call fp15 (by decide)
    exact hret _ _ 72 _ ⟨by omega, by omega⟩ ⟨hI, hW⟩ ⟨⟨by omega, by omega⟩, hF⟩ dX0_rub_72
set_option maxRecDepth 4000 in
theorem k_X0_foulOf_49 (l : Launch) (M : Mem) (hJ : Iw M) (x0 : Int) (hx0a : 0 ≤ x0) (hx0b : x0 ≤ 7) (x1 : Int) (hx1a : 0 ≤ x1) (hx1b : x1 ≤ 7) (x2 : Int) (hx2a : 0 ≤ x2) (hx2b : x2 ≤ 4) : CI l yX0_foulOf cX0_foulOf 8 (some .int) 5 (fun ad => [.ref (ad 49), ii x0, ii x1, ii x2]) M (fun z M' => ((-2147483648) ≤ z ∧ z ≤ 2147483647) ∧ Fr [16, 17] M M') := by
  obtain ⟨hI, hW⟩ := hJ
  have hF : Fr [16, 17] M M := Fr.rf
  refine en_i (by decide +kernel) (fun ad => by exact Nat.le_of_ble_eq_true rfl) (fun D cy ad A p e s m args below meth c Q F hret => ?_)
  refine z_eq (ls' := [(0, .ref (ad 49)), (1, ii x0), (2, ii x1), (3, ii x2)]) rfl rfl rfl ?_
  refine z_iconst F dX0_foulOf_0 ?_
  refine z_istore F dX0_foulOf_1 (by decide) (ls' := [(4, ii 0), (0, .ref (ad 49)), (1, ii x0), (2, ii x1), (3, ii x2)]) rfl ?_
  refine z_iconst F dX0_foulOf_3 ?_
  refine z_istore F dX0_foulOf_4 (by decide) (ls' := [(5, ii 0), (4, ii 0), (0, .ref (ad 49)), (1, ii x0), (2, ii x1), (3, ii x2)]) rfl ?_
  refine z_loc [2, 3, 4, 5, 1, 0] (ls' := [(0, .ref (ad 49)), (1, ii x0), (2, ii x1), (3, ii x2), (4, ii 0), (5, ii 0)]) rfl ?_
  suffices key6 : ∀ (n : Nat) (y2 : Int) (y3 : Int) (M1 : Mem), Inv M1 → WFk M1 → Fr [16, 17] M M1 → (-2147483648) ≤ y2 → y2 ≤ 2147483647 → 0 ≤ y3 → y3 ≤ 5 → 5 - y3 < (n : Int) → Z D cy ad p l e (RMh 5) s m args below meth c A 8 0 0 Q 6 [(0, .ref (ad 49)), (1, ii x0), (2, ii x1), (3, ii x2), (4, ii y2), (5, ii y3)] [] M1 from key6 6 0 0 M hI hW hF (by omega) (by omega) (by omega) (by omega) (by omega)
  intro n6
  induction n6 with
  | zero => intro y2 y3 M1 hI hW hF ay2 by2 ay3 by3 hn6; exfalso; omega
  | succ n6 ih6 =>
    intro y2 y3 M1 hI hW hF ay2 by2 ay3 by3 hn6
    refine z_iload F dX0_foulOf_6 (q := 5) rfl ?_
    refine z_iload_n F dX0_foulOf_8 rfl (q := 3) rfl ?_
    refine z_icmp_gt (tgt := 88) F dX0_foulOf_9 (by decide +kernel) (by omega) (by omega) (fun c4 => ?_) (fun c4 => ?_)
    · refine z_iload F dX0_foulOf_88 (q := 4) rfl ?_
      exact hret _ _ 90 _ (by omega) ⟨hI, hW⟩ ⟨⟨by omega, by omega⟩, hF⟩ dX0_foulOf_90
    · refine z_aload_n F dX0_foulOf_12 rfl (q := 0) rfl ?_
      refine rf_X0_38 F gs_49 rfl dX0_foulOf_13 ?_
      refine rf_X0_83 F gs_35 rfl dX0_foulOf_16 ?_
      refine z_iload_n F dX0_foulOf_19 rfl (q := 1) rfl ?_
      refine z_iald F hI gs_37 (by omega) (by omega) (by decide) bd_37 dX0_foulOf_20 (fun v5 (ev5 : v5 = M1 37 _) av5 bv5 => ?_)
      refine z_iload F dX0_foulOf_21 (q := 5) rfl ?_
      refine zs_i (rest := []) F (k_X0_flipped l M1 ⟨hI, hW⟩ v5 (by omega) (by omega) y3 (by omega) (by omega)) cs_X0_86 (by decide) (by decide) rfl rfl rfl (Nat.le_of_ble_eq_true rfl) dX0_foulOf_23 (fun v6 M7 rv6 hI p8 => ?_)
      obtain ⟨hI, hW⟩ := hI
      obtain ⟨⟨av6, bv6⟩, rfl⟩ := p8
      refine z_istore F dX0_foulOf_26 (by decide) (ls' := [(6, ii v6), (0, .ref (ad 49)), (1, ii x0), (2, ii x1), (3, ii x2), (4, ii y2), (5, ii y3)]) rfl ?_
      refine z_iconst F dX0_foulOf_28 ?_
      refine z_istore F dX0_foulOf_29 (by decide) (ls' := [(7, ii 0), (6, ii v6), (0, .ref (ad 49)), (1, ii x0), (2, ii x1), (3, ii x2), (4, ii y2), (5, ii y3)]) rfl ?_
      refine z_loc [2, 3, 4, 5, 6, 7, 1, 0] (ls' := [(0, .ref (ad 49)), (1, ii x0), (2, ii x1), (3, ii x2), (4, ii y2), (5, ii y3), (6, ii v6), (7, ii 0)]) rfl ?_
      suffices key31 : ∀ (n : Nat) (y10 : Int) (y11 : Int) (M9 : Mem), Inv M9 → WFk M9 → Fr [16, 17] M M9 → (-2147483648) ≤ y10 → y10 ≤ 2147483647 → 0 ≤ y11 → y11 ≤ 5 → 5 - y11 < (n : Int) → Z D cy ad p l e (RMh 5) s m args below meth c A 8 0 0 Q 31 [(0, .ref (ad 49)), (1, ii x0), (2, ii x1), (3, ii x2), (4, ii y10), (5, ii y3), (6, ii v6), (7, ii y11)] [] M9 from key31 6 y2 0 M1 hI hW hF (by omega) (by omega) (by omega) (by omega) (by omega)
      intro n31
      induction n31 with
      | zero => intro y10 y11 M9 hI hW hF ay10 by10 ay11 by11 hn31; exfalso; omega
      | succ n31 ih31 =>
        intro y10 y11 M9 hI hW hF ay10 by10 ay11 by11 hn31
        refine z_iload F dX0_foulOf_31 (q := 7) rfl ?_
        refine z_iload_n F dX0_foulOf_33 rfl (q := 3) rfl ?_
        refine z_icmp_gt (tgt := 82) F dX0_foulOf_34 (by decide +kernel) (by omega) (by omega) (fun c12 => ?_) (fun c12 => ?_)
        · refine z_iincN F dX0_foulOf_82 (q := 5) rfl (by decide) (fun v13 ev13 => ?_)
          refine z_eq (ls' := [(5, ii v13), (0, .ref (ad 49)), (1, ii x0), (2, ii x1), (3, ii x2), (4, ii y10), (6, ii v6), (7, ii y11)]) rfl rfl rfl ?_
          refine z_goto (tgt := 6) F dX0_foulOf_85 (by decide +kernel) ?_
          refine z_loc [1, 2, 3, 4, 5, 0] (ls' := [(0, .ref (ad 49)), (1, ii x0), (2, ii x1), (3, ii x2), (4, ii y10), (5, ii v13)]) rfl ?_
          exact ih6 y10 v13 M9 hI hW hF (by omega) (by omega) (by omega) (by omega) (by omega)
        · refine z_aload_n F dX0_foulOf_37 rfl (q := 0) rfl ?_
          refine z_iload_n F dX0_foulOf_38 rfl (q := 1) rfl ?_
          refine z_iload_n F dX0_foulOf_39 rfl (q := 2) rfl ?_
          refine z_iload F dX0_foulOf_40 (q := 6) rfl ?_
          refine z_aload_n F dX0_foulOf_42 rfl (q := 0) rfl ?_
          refine rf_X0_38 F gs_49 rfl dX0_foulOf_43 ?_
          refine rf_X0_83 F gs_35 rfl dX0_foulOf_46 ?_
          refine z_iload_n F dX0_foulOf_49 rfl (q := 2) rfl ?_
          refine z_iald F hI gs_37 (by omega) (by omega) (by decide) bd_37 dX0_foulOf_50 (fun v14 (ev14 : v14 = M9 37 _) av14 bv14 => ?_)
          refine z_iload F dX0_foulOf_51 (q := 7) rfl ?_
          refine zs_i (rest := [ii v6, ii x1, ii x0, .ref (ad 49)]) F (k_X0_flipped l M9 ⟨hI, hW⟩ v14 (by omega) (by omega) y11 (by omega) (by omega)) cs_X0_86 (by decide) (by decide) rfl rfl rfl (Nat.le_of_ble_eq_true rfl) dX0_foulOf_53 (fun v15 M16 rv15 hI p17 => ?_)
          obtain ⟨hI, hW⟩ := hI
          obtain ⟨⟨av15, bv15⟩, rfl⟩ := p17
          refine zv_i (rest := []) F (k_X0_rub_49 l M9 ⟨hI, hW⟩ x0 (by omega) (by omega) x1 (by omega) (by omega) v6 (by omega) (by omega) v15 (by omega) (by omega)) cs_X0_90 (T := TX0) (N := 13) (ci := 0) rfl gs_49 (by decide) (by decide) rfl rfl rfl (Nat.le_of_ble_eq_true rfl) dX0_foulOf_56 (fun v18 M19 rv18 hI p20 => ?_)
          obtain ⟨hI, hW⟩ := hI
          obtain ⟨⟨av18, bv18⟩, fp20⟩ := p20
          have hF := hF.call fp20 (by decide)
          refine z_if_eq (tgt := 76) F dX0_foulOf_59 (by decide +kernel) (by omega) (fun c21 => ?_) (fun c21 => ?_)
          · refine z_iincN F dX0_foulOf_76 (q := 7) rfl (by decide) (fun v22 ev22 => ?_)
            refine z_eq (ls' := [(7, ii v22), (0, .ref (ad 49)), (1, ii x0), (2, ii x1), (3, ii x2), (4, ii y10), (5, ii y3), (6, ii v6)]) rfl rfl rfl ?_
            refine z_goto (tgt := 31) F dX0_foulOf_79 (by decide +kernel) ?_
            refine z_loc [1, 2, 3, 4, 5, 6, 7, 0] (ls' := [(0, .ref (ad 49)), (1, ii x0), (2, ii x1), (3, ii x2), (4, ii y10), (5, ii y3), (6, ii v6), (7, ii v22)]) rfl ?_
            exact ih31 y10 v22 M19 hI hW hF (by omega) (by omega) (by omega) (by omega) (by omega)
          · refine z_iload F dX0_foulOf_62 (q := 4) rfl ?_
            refine z_iconst F dX0_foulOf_64 ?_
            refine z_iload F dX0_foulOf_65 (q := 5) rfl ?_
            refine z_iconst F dX0_foulOf_67 ?_
            refine z_imul F dX0_foulOf_68 ?_
            refine z_iload F dX0_foulOf_69 (q := 7) rfl ?_
            refine z_iadd F dX0_foulOf_71 ?_
            refine z_shl1 (k := 24) F dX0_foulOf_72 (by decide) (by omega) (by omega) (fun v23 ev23 av23 bv23 => ?_)
            refine z_ior0 F dX0_foulOf_73 (fun v24 ev24 rv24 => ?_)
            refine z_istore F dX0_foulOf_74 (by decide) (ls' := [(4, ii v24), (0, .ref (ad 49)), (1, ii x0), (2, ii x1), (3, ii x2), (5, ii y3), (6, ii v6), (7, ii y11)]) rfl ?_
            refine z_iincN F dX0_foulOf_76 (q := 7) rfl (by decide) (fun v25 ev25 => ?_)
            refine z_eq (ls' := [(7, ii v25), (4, ii v24), (0, .ref (ad 49)), (1, ii x0), (2, ii x1), (3, ii x2), (5, ii y3), (6, ii v6)]) rfl rfl rfl ?_
            refine z_goto (tgt := 31) F dX0_foulOf_79 (by decide +kernel) ?_
            refine z_loc [2, 3, 4, 5, 1, 6, 7, 0] (ls' := [(0, .ref (ad 49)), (1, ii x0), (2, ii x1), (3, ii x2), (4, ii v24), (5, ii y3), (6, ii v6), (7, ii v25)]) rfl ?_
            exact ih31 v24 v25 M19 hI hW hF (by omega) (by omega) (by omega) (by omega) (by omega)
set_option maxRecDepth 4000 in
theorem k_X0_foresee_49 (l : Launch) (M : Mem) (hJ : Iw M) (x0 : Int) (hx0a : 0 ≤ x0) (hx0b : x0 ≤ 4) : CV l yX0_foresee cX0_foresee 4 none 6 (fun ad => [.ref (ad 49), ii x0]) M (fun M' => Fr [16, 17, 50, 51] M M') := by
  obtain ⟨hI, hW⟩ := hJ
  have hF : Fr [16, 17, 50, 51] M M := Fr.rf
  refine en_v (by decide +kernel) (fun ad => by exact Nat.le_of_ble_eq_true rfl) (fun D cy ad A p e s m args below meth c Q F hret => ?_)
  refine z_eq (ls' := [(0, .ref (ad 49)), (1, ii x0)]) rfl rfl rfl ?_
  refine z_iconst F dX0_foresee_0 ?_
  refine z_istore_n F dX0_foresee_1 rfl (by decide) (ls' := [(2, ii 0), (0, .ref (ad 49)), (1, ii x0)]) rfl ?_
  refine z_loc [1, 2, 0] (ls' := [(0, .ref (ad 49)), (1, ii x0), (2, ii 0)]) rfl ?_
  suffices key2 : ∀ (n : Nat) (y2 : Int) (M1 : Mem), Inv M1 → WFk M1 → Fr [16, 17, 50, 51] M M1 → 0 ≤ y2 → y2 ≤ 8 → 8 - y2 < (n : Int) → Z D cy ad p l e (RMh 6) s m args below meth c A 4 0 0 Q 2 [(0, .ref (ad 49)), (1, ii x0), (2, ii y2)] [] M1 from key2 9 0 M hI hW hF (by omega) (by omega) (by omega)
  intro n2
  induction n2 with
  | zero => intro y2 M1 hI hW hF ay2 by2 hn2; exfalso; omega
  | succ n2 ih2 =>
    intro y2 M1 hI hW hF ay2 by2 hn2
    refine z_iload_n F dX0_foresee_2 rfl (q := 2) rfl ?_
    refine z_aload_n F dX0_foresee_3 rfl (q := 0) rfl ?_
    refine rf_X0_34 F gs_49 rfl dX0_foresee_4 ?_
    refine gf_X0_72 F hI gs_2 rfl bd_2_3 dX0_foresee_7 (fun v3 ev3 av3 bv3 => ?_)
    refine z_icmp_ge (tgt := 78) F dX0_foresee_10 (by decide +kernel) (by omega) (by omega) (fun c4 => ?_) (fun c4 => ?_)
    · exact hret _ 78 _ ⟨hI, hW⟩ hF dX0_foresee_78
    · refine z_aload_n F dX0_foresee_13 rfl (q := 0) rfl ?_
      refine rf_X0_15 F gs_49 rfl dX0_foresee_14 ?_
      refine z_iload_n F dX0_foresee_17 rfl (q := 2) rfl ?_
      refine z_iconst F dX0_foresee_18 ?_
      refine z_iast F hI gs_51 (by omega) (by omega) (by decide) bd_51 dX0_foresee_19 (by omega) (by omega) (fun M6 hI sf5 f5 => ?_)
      have hF := hF.wr f5 (by decide) (by decide)
      have hW : WFk M6 := hW.site f5 (by decide)
      refine z_iload_n F dX0_foresee_20 rfl (q := 2) rfl ?_
      refine z_iconst F dX0_foresee_21 ?_
      refine z_iadd F dX0_foresee_22 ?_
      refine z_nm (fun v7 ev7 => ?_)
      refine z_istore_n F dX0_foresee_23 rfl (by decide) (ls' := [(3, ii v7), (0, .ref (ad 49)), (1, ii x0), (2, ii y2)]) rfl ?_
      refine z_loc [1, 2, 3, 0] (ls' := [(0, .ref (ad 49)), (1, ii x0), (2, ii y2), (3, ii v7)]) rfl ?_
      suffices key24 : ∀ (n : Nat) (y9 : Int) (M8 : Mem), Inv M8 → WFk M8 → Fr [16, 17, 50, 51] M M8 → 1 ≤ y9 → y9 ≤ 8 → 8 - y9 < (n : Int) → Z D cy ad p l e (RMh 6) s m args below meth c A 4 0 0 Q 24 [(0, .ref (ad 49)), (1, ii x0), (2, ii y2), (3, ii y9)] [] M8 from key24 8 v7 M6 hI hW hF (by omega) (by omega) (by omega)
      intro n24
      induction n24 with
      | zero => intro y9 M8 hI hW hF ay9 by9 hn24; exfalso; omega
      | succ n24 ih24 =>
        intro y9 M8 hI hW hF ay9 by9 hn24
        refine z_iload_n F dX0_foresee_24 rfl (q := 3) rfl ?_
        refine z_aload_n F dX0_foresee_25 rfl (q := 0) rfl ?_
        refine rf_X0_34 F gs_49 rfl dX0_foresee_26 ?_
        refine gf_X0_72 F hI gs_2 rfl bd_2_3 dX0_foresee_29 (fun v10 ev10 av10 bv10 => ?_)
        refine z_icmp_ge (tgt := 72) F dX0_foresee_32 (by decide +kernel) (by omega) (by omega) (fun c11 => ?_) (fun c11 => ?_)
        · refine z_iincN F dX0_foresee_72 (q := 2) rfl (by decide) (fun v12 ev12 => ?_)
          refine z_eq (ls' := [(2, ii v12), (0, .ref (ad 49)), (1, ii x0), (3, ii y9)]) rfl rfl rfl ?_
          refine z_goto (tgt := 2) F dX0_foresee_75 (by decide +kernel) ?_
          refine z_loc [1, 2, 0] (ls' := [(0, .ref (ad 49)), (1, ii x0), (2, ii v12)]) rfl ?_
          exact ih2 v12 M8 hI hW hF (by omega) (by omega) (by omega)
        · refine z_aload_n F dX0_foresee_35 rfl (q := 0) rfl ?_
          refine rf_X0_11 F gs_49 rfl dX0_foresee_36 ?_
          refine z_iload_n F dX0_foresee_39 rfl (q := 2) rfl ?_
          refine z_bipush F dX0_foresee_40 (by decide +kernel) ?_
          refine z_imul F dX0_foresee_42 ?_
          refine z_iload_n F dX0_foresee_43 rfl (q := 3) rfl ?_
          refine z_iadd F dX0_foresee_44 ?_
          refine z_aload_n F dX0_foresee_45 rfl (q := 0) rfl ?_
          refine z_iload_n F dX0_foresee_46 rfl (q := 2) rfl ?_
          refine z_iload_n F dX0_foresee_47 rfl (q := 3) rfl ?_
          refine zv_i (rest := [ii ((y2 * 8) + y9), .ref (ad 50)]) F (k_X0_touchEachOther_49 l M8 ⟨hI, hW⟩ y2 (by omega) (by omega) y9 (by omega) (by omega)) cs_X0_76 (T := TX0) (N := 13) (ci := 0) rfl gs_49 (by decide) (by decide) rfl rfl rfl (Nat.le_of_ble_eq_true rfl) dX0_foresee_48 (fun v13 M14 rv13 hI p15 => ?_)
          obtain ⟨hI, hW⟩ := hI
          obtain ⟨⟨av13, bv13⟩, rfl⟩ := p15
          refine z_if_eq (tgt := 64) F dX0_foresee_51 (by decide +kernel) (by omega) (fun c16 => ?_) (fun c16 => ?_)
          · refine z_iconst F dX0_foresee_64 ?_
            refine z_iast F hI gs_50 (by omega) (by omega) (by decide) bd_50 dX0_foresee_65 (by omega) (by omega) (fun M18 hI sf17 f17 => ?_)
            have hF := hF.wr f17 (by decide) (by decide)
            have hW : WFk M18 := hW.site f17 (by decide)
            refine z_iincN F dX0_foresee_66 (q := 3) rfl (by decide) (fun v19 ev19 => ?_)
            refine z_eq (ls' := [(3, ii v19), (0, .ref (ad 49)), (1, ii x0), (2, ii y2)]) rfl rfl rfl ?_
            refine z_goto (tgt := 24) F dX0_foresee_69 (by decide +kernel) ?_
            refine z_loc [1, 2, 3, 0] (ls' := [(0, .ref (ad 49)), (1, ii x0), (2, ii y2), (3, ii v19)]) rfl ?_
            exact ih24 v19 M18 hI hW hF (by omega) (by omega) (by omega)
          · refine z_aload_n F dX0_foresee_54 rfl (q := 0) rfl ?_
            refine z_iload_n F dX0_foresee_55 rfl (q := 2) rfl ?_
            refine z_iload_n F dX0_foresee_56 rfl (q := 3) rfl ?_
            refine z_iload_n F dX0_foresee_57 rfl (q := 1) rfl ?_
            refine zv_i (rest := [ii ((y2 * 8) + y9), .ref (ad 50)]) F (k_X0_foulOf_49 l M8 ⟨hI, hW⟩ y2 (by omega) (by omega) y9 (by omega) (by omega) x0 (by omega) (by omega)) cs_X0_79 (T := TX0) (N := 13) (ci := 0) rfl gs_49 (by decide) (by decide) rfl rfl rfl (Nat.le_of_ble_eq_true rfl) dX0_foresee_58 (fun v20 M21 rv20 hI p22 => ?_)
            obtain ⟨hI, hW⟩ := hI
            obtain ⟨⟨av20, bv20⟩, fp22⟩ := p22
            have hF := hF.call fp22 (by decide)
            refine z_goto (tgt := 65) F dX0_foresee_61 (by decide +kernel) ?_
            refine z_iast F hI gs_50 (by omega) (by omega) (by decide) bd_50 dX0_foresee_65 (by omega) (by omega) (fun M24 hI sf23 f23 => ?_)
            have hF := hF.wr f23 (by decide) (by decide)
            have hW : WFk M24 := hW.site f23 (by decide)
            refine z_iincN F dX0_foresee_66 (q := 3) rfl (by decide) (fun v25 ev25 => ?_)
            refine z_eq (ls' := [(3, ii v25), (0, .ref (ad 49)), (1, ii x0), (2, ii y2)]) rfl rfl rfl ?_
            refine z_goto (tgt := 24) F dX0_foresee_69 (by decide +kernel) ?_
            refine z_loc [1, 2, 3, 0] (ls' := [(0, .ref (ad 49)), (1, ii x0), (2, ii y2), (3, ii v25)]) rfl ?_
            exact ih24 v25 M24 hI hW hF (by omega) (by omega) (by omega)
set_option maxRecDepth 4000 in
theorem k_X0_turnedClashes_49 (l : Launch) (M : Mem) (hJ : Iw M) : CI l yX0_turnedClashes cX0_turnedClashes 4 (some .int) 1 (fun ad => [.ref (ad 49)]) M (fun z M' => ((-2147483648) ≤ z ∧ z ≤ 2147483647) ∧ M = M') := by
  obtain ⟨hI, hW⟩ := hJ
  refine en_i (by decide +kernel) (fun ad => by exact Nat.le_of_ble_eq_true rfl) (fun D cy ad A p e s m args below meth c Q F hret => ?_)
  refine z_eq (ls' := [(0, .ref (ad 49))]) rfl rfl rfl ?_
  refine z_iconst F dX0_turnedClashes_0 ?_
  refine z_istore_n F dX0_turnedClashes_1 rfl (by decide) (ls' := [(1, ii 0), (0, .ref (ad 49))]) rfl ?_
  refine z_iconst F dX0_turnedClashes_2 ?_
  refine z_istore_n F dX0_turnedClashes_3 rfl (by decide) (ls' := [(2, ii 0), (1, ii 0), (0, .ref (ad 49))]) rfl ?_
  refine z_loc [2, 1, 0] (ls' := [(0, .ref (ad 49)), (1, ii 0), (2, ii 0)]) rfl ?_
  suffices key4 : ∀ (n : Nat) (y2 : Int) (y3 : Int), (-2147483648) ≤ y2 → y2 ≤ 2147483647 → 0 ≤ y3 → y3 ≤ 8 → 8 - y3 < (n : Int) → Z D cy ad p l e (RMh 1) s m args below meth c A 4 0 0 Q 4 [(0, .ref (ad 49)), (1, ii y2), (2, ii y3)] [] M from key4 9 0 0 (by omega) (by omega) (by omega) (by omega) (by omega)
  intro n4
  induction n4 with
  | zero => intro y2 y3 ay2 by2 ay3 by3 hn4; exfalso; omega
  | succ n4 ih4 =>
    intro y2 y3 ay2 by2 ay3 by3 hn4
    refine z_iload_n F dX0_turnedClashes_4 rfl (q := 2) rfl ?_
    refine z_aload_n F dX0_turnedClashes_5 rfl (q := 0) rfl ?_
    refine rf_X0_34 F gs_49 rfl dX0_turnedClashes_6 ?_
    refine gf_X0_72 F hI gs_2 rfl bd_2_3 dX0_turnedClashes_9 (fun v4 ev4 av4 bv4 => ?_)
    refine z_icmp_ge (tgt := 74) F dX0_turnedClashes_12 (by decide +kernel) (by omega) (by omega) (fun c5 => ?_) (fun c5 => ?_)
    · refine z_iload_n F dX0_turnedClashes_74 rfl (q := 1) rfl ?_
      exact hret _ _ 75 _ (by omega) ⟨hI, hW⟩ ⟨⟨by omega, by omega⟩, rfl⟩ dX0_turnedClashes_75
    · refine z_iload_n F dX0_turnedClashes_15 rfl (q := 2) rfl ?_
      refine z_iconst F dX0_turnedClashes_16 ?_
      refine z_iadd F dX0_turnedClashes_17 ?_
      refine z_nm (fun v6 ev6 => ?_)
      refine z_istore_n F dX0_turnedClashes_18 rfl (by decide) (ls' := [(3, ii v6), (0, .ref (ad 49)), (1, ii y2), (2, ii y3)]) rfl ?_
      refine z_loc [1, 2, 3, 0] (ls' := [(0, .ref (ad 49)), (1, ii y2), (2, ii y3), (3, ii v6)]) rfl ?_
      suffices key19 : ∀ (n : Nat) (y8 : Int) (y9 : Int), (-2147483648) ≤ y8 → y8 ≤ 2147483647 → 1 ≤ y9 → y9 ≤ 8 → 8 - y9 < (n : Int) → Z D cy ad p l e (RMh 1) s m args below meth c A 4 0 0 Q 19 [(0, .ref (ad 49)), (1, ii y8), (2, ii y3), (3, ii y9)] [] M from key19 8 y2 v6 (by omega) (by omega) (by omega) (by omega) (by omega)
      intro n19
      induction n19 with
      | zero => intro y8 y9 ay8 by8 ay9 by9 hn19; exfalso; omega
      | succ n19 ih19 =>
        intro y8 y9 ay8 by8 ay9 by9 hn19
        refine z_iload_n F dX0_turnedClashes_19 rfl (q := 3) rfl ?_
        refine z_aload_n F dX0_turnedClashes_20 rfl (q := 0) rfl ?_
        refine rf_X0_34 F gs_49 rfl dX0_turnedClashes_21 ?_
        refine gf_X0_72 F hI gs_2 rfl bd_2_3 dX0_turnedClashes_24 (fun v10 ev10 av10 bv10 => ?_)
        have zv10 : v4 = v10 := ev4.trans ev10.symm
        subst zv10
        refine z_icmp_ge (tgt := 68) F dX0_turnedClashes_27 (by decide +kernel) (by omega) (by omega) (fun c11 => ?_) (fun c11 => ?_)
        · refine z_iincN F dX0_turnedClashes_68 (q := 2) rfl (by decide) (fun v12 ev12 => ?_)
          refine z_eq (ls' := [(2, ii v12), (0, .ref (ad 49)), (1, ii y8), (3, ii y9)]) rfl rfl rfl ?_
          refine z_goto (tgt := 4) F dX0_turnedClashes_71 (by decide +kernel) ?_
          refine z_loc [1, 2, 0] (ls' := [(0, .ref (ad 49)), (1, ii y8), (2, ii v12)]) rfl ?_
          exact ih4 y8 v12 (by omega) (by omega) (by omega) (by omega) (by omega)
        · refine z_iload_n F dX0_turnedClashes_30 rfl (q := 1) rfl ?_
          refine z_aload_n F dX0_turnedClashes_31 rfl (q := 0) rfl ?_
          refine rf_X0_11 F gs_49 rfl dX0_turnedClashes_32 ?_
          refine z_iload_n F dX0_turnedClashes_35 rfl (q := 2) rfl ?_
          refine z_bipush F dX0_turnedClashes_36 (by decide +kernel) ?_
          refine z_imul F dX0_turnedClashes_38 ?_
          refine z_iload_n F dX0_turnedClashes_39 rfl (q := 3) rfl ?_
          refine z_iadd F dX0_turnedClashes_40 ?_
          refine z_iald F hI gs_50 (by omega) (by omega) (by decide) bd_50 dX0_turnedClashes_41 (fun v13 (ev13 : v13 = M 50 _) av13 bv13 => ?_)
          refine z_aload_n F dX0_turnedClashes_42 rfl (q := 0) rfl ?_
          refine rf_X0_15 F gs_49 rfl dX0_turnedClashes_43 ?_
          refine z_iload_n F dX0_turnedClashes_46 rfl (q := 2) rfl ?_
          refine z_iald F hI gs_51 (by omega) (by omega) (by decide) bd_51 dX0_turnedClashes_47 (fun v14 (ev14 : v14 = M 51 _) av14 bv14 => ?_)
          refine z_iconst F dX0_turnedClashes_48 ?_
          refine z_imul F dX0_turnedClashes_49 ?_
          refine z_wrap (fun v15 rv15 wv15 => ?_)
          refine z_aload_n F dX0_turnedClashes_50 rfl (q := 0) rfl ?_
          refine rf_X0_15 F gs_49 rfl dX0_turnedClashes_51 ?_
          refine z_iload_n F dX0_turnedClashes_54 rfl (q := 3) rfl ?_
          refine z_iald F hI gs_51 (by omega) (by omega) (by decide) bd_51 dX0_turnedClashes_55 (fun v16 (ev16 : v16 = M 51 _) av16 bv16 => ?_)
          refine z_iadd F dX0_turnedClashes_56 ?_
          refine z_wrap (fun v17 rv17 wv17 => ?_)
          refine z_ishr0 F dX0_turnedClashes_57 (fun v18 ev18 rv18 => ?_)
          refine z_iconst F dX0_turnedClashes_58 ?_
          refine z_iand_r F dX0_turnedClashes_59 (by omega) (by omega) (fun v19 ev19 av19 bv19 => ?_)
          refine z_iadd F dX0_turnedClashes_60 ?_
          refine z_wrap (fun v20 rv20 wv20 => ?_)
          refine z_istore_n F dX0_turnedClashes_61 rfl (by decide) (ls' := [(1, ii v20), (0, .ref (ad 49)), (2, ii y3), (3, ii y9)]) rfl ?_
          refine z_iincN F dX0_turnedClashes_62 (q := 3) rfl (by decide) (fun v21 ev21 => ?_)
          refine z_eq (ls' := [(3, ii v21), (1, ii v20), (0, .ref (ad 49)), (2, ii y3)]) rfl rfl rfl ?_
          refine z_goto (tgt := 19) F dX0_turnedClashes_65 (by decide +kernel) ?_
          refine z_loc [2, 1, 3, 0] (ls' := [(0, .ref (ad 49)), (1, ii v20), (2, ii y3), (3, ii v21)]) rfl ?_
          exact ih19 v20 v21 (by omega) (by omega) (by omega) (by omega) (by omega)
set_option maxRecDepth 4000 in
theorem k_X0_isQuiet_49 (l : Launch) (M : Mem) (hJ : Iw M) (x0 : Int) (hx0a : (-2147483648) ≤ x0) (hx0b : x0 ≤ 2147483647) : CI l yX0_isQuiet cX0_isQuiet 3 (some .boolean) 2 (fun ad => [.ref (ad 49), ii x0]) M (fun z M' => (0 ≤ z ∧ z ≤ 1) ∧ Fr [51] M M') := by
  obtain ⟨hI, hW⟩ := hJ
  have hF : Fr [51] M M := Fr.rf
  refine en_z (by decide +kernel) (fun ad => by exact Nat.le_of_ble_eq_true rfl) (fun D cy ad A p e s m args below meth c Q F hret => ?_)
  refine z_eq (ls' := [(0, .ref (ad 49)), (1, ii x0)]) rfl rfl rfl ?_
  refine z_iconst F dX0_isQuiet_0 ?_
  refine z_istore_n F dX0_isQuiet_1 rfl (by decide) (ls' := [(2, ii 0), (0, .ref (ad 49)), (1, ii x0)]) rfl ?_
  refine z_loc [1, 2, 0] (ls' := [(0, .ref (ad 49)), (1, ii x0), (2, ii 0)]) rfl ?_
  suffices key2 : ∀ (n : Nat) (y2 : Int) (M1 : Mem), Inv M1 → WFk M1 → Fr [51] M M1 → 0 ≤ y2 → y2 ≤ 8 → 8 - y2 < (n : Int) → Z D cy ad p l e (RMh 2) s m args below meth c A 3 0 0 Q 2 [(0, .ref (ad 49)), (1, ii x0), (2, ii y2)] [] M1 from key2 9 0 M hI hW hF (by omega) (by omega) (by omega)
  intro n2
  induction n2 with
  | zero => intro y2 M1 hI hW hF ay2 by2 hn2; exfalso; omega
  | succ n2 ih2 =>
    intro y2 M1 hI hW hF ay2 by2 hn2
    refine z_iload_n F dX0_isQuiet_2 rfl (q := 2) rfl ?_
    refine z_aload_n F dX0_isQuiet_3 rfl (q := 0) rfl ?_
    refine rf_X0_34 F gs_49 rfl dX0_isQuiet_4 ?_
    refine gf_X0_72 F hI gs_2 rfl bd_2_3 dX0_isQuiet_7 (fun v3 ev3 av3 bv3 => ?_)
    refine z_icmp_ge (tgt := 30) F dX0_isQuiet_10 (by decide +kernel) (by omega) (by omega) (fun c4 => ?_) (fun c4 => ?_)
    · refine z_aload_n F dX0_isQuiet_30 rfl (q := 0) rfl ?_
      refine zv_i (rest := []) F (k_X0_turnedClashes_49 l M1 ⟨hI, hW⟩) cs_X0_108 (T := TX0) (N := 13) (ci := 0) rfl gs_49 (by decide) (by decide) rfl rfl rfl (Nat.le_of_ble_eq_true rfl) dX0_isQuiet_31 (fun v5 M6 rv5 hI p7 => ?_)
      obtain ⟨hI, hW⟩ := hI
      obtain ⟨⟨av5, bv5⟩, rfl⟩ := p7
      refine z_if_ne (tgt := 41) F dX0_isQuiet_34 (by decide +kernel) (by omega) (fun c8 => ?_) (fun c8 => ?_)
      · refine z_iconst F dX0_isQuiet_41 ?_
        exact hret _ _ 42 _ ⟨by omega, by omega⟩ ⟨hI, hW⟩ ⟨⟨by omega, by omega⟩, hF⟩ dX0_isQuiet_42
      · refine z_iconst F dX0_isQuiet_37 ?_
        refine z_goto (tgt := 42) F dX0_isQuiet_38 (by decide +kernel) ?_
        exact hret _ _ 42 _ ⟨by omega, by omega⟩ ⟨hI, hW⟩ ⟨⟨by omega, by omega⟩, hF⟩ dX0_isQuiet_42
    · refine z_aload_n F dX0_isQuiet_13 rfl (q := 0) rfl ?_
      refine rf_X0_15 F gs_49 rfl dX0_isQuiet_14 ?_
      refine z_iload_n F dX0_isQuiet_17 rfl (q := 2) rfl ?_
      refine z_iload_n F dX0_isQuiet_18 rfl (q := 1) rfl ?_
      refine z_iload_n F dX0_isQuiet_19 rfl (q := 2) rfl ?_
      refine z_ishr0 F dX0_isQuiet_20 (fun v9 ev9 rv9 => ?_)
      refine z_iconst F dX0_isQuiet_21 ?_
      refine z_iand_r F dX0_isQuiet_22 (by omega) (by omega) (fun v10 ev10 av10 bv10 => ?_)
      refine z_iast F hI gs_51 (by omega) (by omega) (by decide) bd_51 dX0_isQuiet_23 (by omega) (by omega) (fun M12 hI sf11 f11 => ?_)
      have hF := hF.wr f11 (by decide) (by decide)
      have hW : WFk M12 := hW.site f11 (by decide)
      refine z_iincN F dX0_isQuiet_24 (q := 2) rfl (by decide) (fun v13 ev13 => ?_)
      refine z_eq (ls' := [(2, ii v13), (0, .ref (ad 49)), (1, ii x0)]) rfl rfl rfl ?_
      refine z_goto (tgt := 2) F dX0_isQuiet_27 (by decide +kernel) ?_
      refine z_loc [1, 2, 0] (ls' := [(0, .ref (ad 49)), (1, ii x0), (2, ii v13)]) rfl ?_
      exact ih2 v13 M12 hI hW hF (by omega) (by omega) (by omega)
set_option maxRecDepth 4000 in
theorem k_X0_fewestFlips_49 (l : Launch) (M : Mem) (hJ : Iw M) : CI l yX0_fewestFlips cX0_fewestFlips 4 (some .int) 7 (fun ad => [.ref (ad 49)]) M (fun z M' => ((-1) ≤ z ∧ z ≤ 2147483647) ∧ Fr [16, 17, 50, 51] M M') := by
  obtain ⟨hI, hW⟩ := hJ
  have hF : Fr [16, 17, 50, 51] M M := Fr.rf
  refine en_i (by decide +kernel) (fun ad => by exact Nat.le_of_ble_eq_true rfl) (fun D cy ad A p e s m args below meth c Q F hret => ?_)
  refine z_eq (ls' := [(0, .ref (ad 49))]) rfl rfl rfl ?_
  refine z_aload_n F dX0_fewestFlips_0 rfl (q := 0) rfl ?_
  refine z_iconst F dX0_fewestFlips_1 ?_
  refine zv_v (rest := []) F (k_X0_foresee_49 l M ⟨hI, hW⟩ 1 (by omega) (by omega)) cs_X0_94 (T := TX0) (N := 13) (ci := 0) rfl gs_49 (by decide) (by decide) rfl rfl rfl (Nat.le_of_ble_eq_true rfl) dX0_fewestFlips_2 (fun M1 hI p2 => ?_)
  obtain ⟨hI, hW⟩ := hI
  have fp2 := p2
  have hF := hF.call fp2 (by decide)
  refine z_iconst F dX0_fewestFlips_5 ?_
  refine z_istore_n F dX0_fewestFlips_6 rfl (by decide) (ls' := [(1, ii (-1)), (0, .ref (ad 49))]) rfl ?_
  refine z_aload_n F dX0_fewestFlips_7 rfl (q := 1) rfl ?_
  refine rf_X0_34 F gs_49 rfl dX0_fewestFlips_8 ?_
  refine gf_X0_72 F hI gs_2 rfl bd_2_3 dX0_fewestFlips_11 (fun v3 ev3 av3 bv3 => ?_)
  refine z_iconst F dX0_fewestFlips_14 ?_
  refine z_iadd F dX0_fewestFlips_15 ?_
  refine z_nm (fun v4 ev4 => ?_)
  refine z_istore_n F dX0_fewestFlips_16 rfl (by decide) (ls' := [(2, ii v4), (1, ii (-1)), (0, .ref (ad 49))]) rfl ?_
  refine z_iconst F dX0_fewestFlips_17 ?_
  refine z_istore_n F dX0_fewestFlips_18 rfl (by decide) (ls' := [(3, ii 0), (2, ii v4), (1, ii (-1)), (0, .ref (ad 49))]) rfl ?_
  refine z_loc [3, 2, 1, 0] (ls' := [(0, .ref (ad 49)), (1, ii (-1)), (2, ii v4), (3, ii 0)]) rfl ?_
  suffices key19 : ∀ (n : Nat) (y6 : Int) (y7 : Int) (y8 : Int) (M5 : Mem), Inv M5 → WFk M5 → Fr [16, 17, 50, 51] M M5 → (-1) ≤ y6 → y6 ≤ 2147483647 → 0 ≤ y7 → y7 ≤ 9 → 0 ≤ y8 → y8 ≤ 256 → 256 - y8 < (n : Int) → Z D cy ad p l e (RMh 7) s m args below meth c A 4 0 0 Q 19 [(0, .ref (ad 49)), (1, ii y6), (2, ii y7), (3, ii y8)] [] M5 from key19 257 (-1) v4 0 M1 hI hW hF (by omega) (by omega) (by omega) (by omega) (by omega) (by omega) (by omega)
  intro n19
  induction n19 with
  | zero => intro y6 y7 y8 M5 hI hW hF ay6 by6 ay7 by7 ay8 by8 hn19; exfalso; omega
  | succ n19 ih19 =>
    intro y6 y7 y8 M5 hI hW hF ay6 by6 ay7 by7 ay8 by8 hn19
    refine z_iload_n F dX0_fewestFlips_19 rfl (q := 3) rfl ?_
    refine z_iconst F dX0_fewestFlips_20 ?_
    refine z_aload_n F dX0_fewestFlips_21 rfl (q := 0) rfl ?_
    refine rf_X0_34 F gs_49 rfl dX0_fewestFlips_22 ?_
    refine gf_X0_72 F hI gs_2 rfl bd_2_3 dX0_fewestFlips_25 (fun v9 ev9 av9 bv9 => ?_)
    refine z_shl1 (k := 8) F dX0_fewestFlips_28 (by decide) (by omega) (by omega) (fun v10 ev10 av10 bv10 => ?_)
    refine z_icmp_ge (tgt := 61) F dX0_fewestFlips_29 (by decide +kernel) (by omega) (by omega) (fun c11 => ?_) (fun c11 => ?_)
    · refine z_iload_n F dX0_fewestFlips_61 rfl (q := 1) rfl ?_
      exact hret _ _ 62 _ (by omega) ⟨hI, hW⟩ ⟨⟨by omega, by omega⟩, hF⟩ dX0_fewestFlips_62
    · refine z_iload_n F dX0_fewestFlips_32 rfl (q := 3) rfl ?_
      refine zs_i (rest := []) F (k_J6_bitCount_0f7a4_s l M5 ⟨hI, hW⟩ y8 (by omega) (by omega)) cs_X0_98 (by decide) (by decide) rfl rfl rfl (Nat.le_of_ble_eq_true rfl) dX0_fewestFlips_33 (fun v12 M13 rv12 hI p14 => ?_)
      obtain ⟨hI, hW⟩ := hI
      obtain ⟨⟨av12, bv12⟩, rfl, xp14⟩ := p14
      have hp8 := pcn_8 (s := y8) (by omega) (by omega)
      have hb8v12 : 0 ≤ v12 ∧ v12 ≤ 8 := by omega
      refine z_iload_n F dX0_fewestFlips_36 rfl (q := 2) rfl ?_
      refine z_icmp_ge (tgt := 55) F dX0_fewestFlips_37 (by decide +kernel) (by omega) (by omega) (fun c15 => ?_) (fun c15 => ?_)
      · refine z_iincN F dX0_fewestFlips_55 (q := 3) rfl (by decide) (fun v16 ev16 => ?_)
        refine z_eq (ls' := [(3, ii v16), (0, .ref (ad 49)), (1, ii y6), (2, ii y7)]) rfl rfl rfl ?_
        refine z_goto (tgt := 19) F dX0_fewestFlips_58 (by decide +kernel) ?_
        refine z_loc [1, 2, 3, 0] (ls' := [(0, .ref (ad 49)), (1, ii y6), (2, ii y7), (3, ii v16)]) rfl ?_
        exact ih19 y6 y7 v16 M5 hI hW hF (by omega) (by omega) (by omega) (by omega) (by omega) (by omega) (by omega)
      · refine z_aload_n F dX0_fewestFlips_40 rfl (q := 0) rfl ?_
        refine z_iload_n F dX0_fewestFlips_41 rfl (q := 3) rfl ?_
        refine zv_i (rest := []) F (k_X0_isQuiet_49 l M5 ⟨hI, hW⟩ y8 (by omega) (by omega)) cs_X0_104 (T := TX0) (N := 13) (ci := 0) rfl gs_49 (by decide) (by decide) rfl rfl rfl (Nat.le_of_ble_eq_true rfl) dX0_fewestFlips_42 (fun v17 M18 rv17 hI p19 => ?_)
        obtain ⟨hI, hW⟩ := hI
        obtain ⟨⟨av17, bv17⟩, fp19⟩ := p19
        have hF := hF.call fp19 (by decide)
        refine z_if_eq (tgt := 55) F dX0_fewestFlips_45 (by decide +kernel) (by omega) (fun c20 => ?_) (fun c20 => ?_)
        · refine z_iincN F dX0_fewestFlips_55 (q := 3) rfl (by decide) (fun v21 ev21 => ?_)
          refine z_eq (ls' := [(3, ii v21), (0, .ref (ad 49)), (1, ii y6), (2, ii y7)]) rfl rfl rfl ?_
          refine z_goto (tgt := 19) F dX0_fewestFlips_58 (by decide +kernel) ?_
          refine z_loc [1, 2, 3, 0] (ls' := [(0, .ref (ad 49)), (1, ii y6), (2, ii y7), (3, ii v21)]) rfl ?_
          exact ih19 y6 y7 v21 M18 hI hW hF (by omega) (by omega) (by omega) (by omega) (by omega) (by omega) (by omega)
        · refine z_iload_n F dX0_fewestFlips_48 rfl (q := 3) rfl ?_
          refine z_istore_n F dX0_fewestFlips_49 rfl (by decide) (ls' := [(1, ii y8), (0, .ref (ad 49)), (2, ii y7), (3, ii y8)]) rfl ?_
          refine z_iload_n F dX0_fewestFlips_50 rfl (q := 3) rfl ?_
          refine zs_i (rest := []) F (k_J6_bitCount_0f7a4_s l M18 ⟨hI, hW⟩ y8 (by omega) (by omega)) cs_X0_98 (by decide) (by decide) rfl rfl rfl (Nat.le_of_ble_eq_true rfl) dX0_fewestFlips_51 (fun v22 M23 rv22 hI p24 => ?_)
          obtain ⟨hI, hW⟩ := hI
          obtain ⟨⟨av22, bv22⟩, rfl, xp24⟩ := p24
          have hp8 := pcn_8 (s := y8) (by omega) (by omega)
          have hb8v22 : 0 ≤ v22 ∧ v22 ≤ 8 := by omega
          refine z_istore_n F dX0_fewestFlips_54 rfl (by decide) (ls' := [(2, ii v22), (1, ii y8), (0, .ref (ad 49)), (3, ii y8)]) rfl ?_
          refine z_iincN F dX0_fewestFlips_55 (q := 3) rfl (by decide) (fun v25 ev25 => ?_)
          refine z_eq (ls' := [(3, ii v25), (2, ii v22), (1, ii y8), (0, .ref (ad 49))]) rfl rfl rfl ?_
          refine z_goto (tgt := 19) F dX0_fewestFlips_58 (by decide +kernel) ?_
          refine z_loc [3, 2, 1, 0] (ls' := [(0, .ref (ad 49)), (1, ii y8), (2, ii v22), (3, ii v25)]) rfl ?_
          exact ih19 y8 v22 v25 M18 hI hW hF (by omega) (by omega) (by omega) (by omega) (by omega) (by omega) (by omega)
set_option maxRecDepth 4000 in
theorem k_X11_flips (l : Launch) (hlT : l.stackTraces = false) (M : Mem) (hJ : Iw M) (x0 : Int) (hx0a : (-2147483648) ≤ x0) (hx0b : x0 ≤ 2147483647) : CIX l yX11_flips cX11_flips 3 (some .int) 8 1 (fun ad => [.ref (ad 0), ii x0]) M (fun z M' => ((-1) ≤ z ∧ z ≤ 2147483647) ∧ Fr [16, 17, 50, 51] M M') (fun E M' => (E = "java/lang/IllegalArgumentException" ∧ True ∧ Fr [16, 17, 50, 51] M M')) := by
  obtain ⟨hI, hW⟩ := hJ
  have hF : Fr [16, 17, 50, 51] M M := Fr.rf
  refine enx_i (by decide +kernel) (fun ad => by exact Nat.le_of_ble_eq_true rfl) (fun D cy ad A p e s m args below meth c Q F hQ hr hlk hex => ?_)
  refine z_eq (ls' := [(0, .ref (ad 0)), (1, ii x0)]) rfl rfl rfl ?_
  refine z_iload_n F dX11_flips_0 rfl (q := 1) rfl ?_
  refine z_iconst F dX11_flips_1 ?_
  refine zz_v (rest := []) F (k_X11_needWhat l hlT M ⟨hI, hW⟩ x0 (by omega) (by omega) 1 (by omega) (by omega)) cs_X11_252 (by decide) (by decide) ⟨by decide, by decide⟩ rfl rfl rfl (Nat.le_of_ble_eq_true rfl) dX11_flips_2 (fun E M9 hJ9 hx => by obtain ⟨h9, g9, rfl⟩ := hx <;> first | (exact zx_out hQ hlk hex ⟨by decide, by decide⟩ hJ9 (⟨h9, trivial, hF⟩))) (fun M1 hI p2 => ?_)
  obtain ⟨hI, hW⟩ := hI
  obtain ⟨rfl, xp2⟩ := p2
  refine z_aload_n F dX11_flips_5 rfl (q := 0) rfl ?_
  refine rf_X11_73 F gs_0 rfl dX11_flips_6 ?_
  refine zw_i (rest := []) F (k_X0_fewestFlips_49 l M ⟨hI, hW⟩) cs_X11_351 (T := TX0) (N := 13) (ci := 0) rfl gs_49 (by decide) (by decide) ⟨by decide, by decide⟩ rfl rfl rfl (Nat.le_of_ble_eq_true rfl) dX11_flips_9 (fun v3 M4 rv3 hI p5 => ?_)
  obtain ⟨hI, hW⟩ := hI
  obtain ⟨⟨av3, bv3⟩, fp5⟩ := p5
  have hF := hF.call fp5 (by decide)
  refine z_istore_n F dX11_flips_12 rfl (by decide) (ls' := [(2, ii v3), (0, .ref (ad 0)), (1, ii x0)]) rfl ?_
  refine z_iload_n F dX11_flips_13 rfl (q := 0) rfl ?_
  refine z_iconst F dX11_flips_14 ?_
  refine z_icmp_eq (tgt := 23) F dX11_flips_15 (by decide +kernel) (by omega) (by omega) (fun c6 => ?_) (fun c6 => ?_)
  · refine z_iload_n F dX11_flips_23 rfl (q := 0) rfl ?_
    refine z_goto (tgt := 31) F dX11_flips_24 (by decide +kernel) ?_
    exact zxr_i F hQ hr hlk dX11_flips_31 ⟨by decide, by decide⟩ (by omega) ⟨hI, hW⟩ ⟨⟨by omega, by omega⟩, hF⟩
  · refine z_iload_n F dX11_flips_18 rfl (q := 2) rfl ?_
    refine z_iconst F dX11_flips_19 ?_
    refine z_icmp_ne (tgt := 27) F dX11_flips_20 (by decide +kernel) (by omega) (by omega) (fun c7 => ?_) (fun c7 => ?_)
    · refine z_iload_n F dX11_flips_27 rfl (q := 0) rfl ?_
      refine zt_i (rest := []) F (k_J6_bitCount_0f7a4 l M4 ⟨hI, hW⟩ v3 (by omega) (by omega)) cs_X11_311 (by decide) (by decide) ⟨by decide, by decide⟩ rfl rfl rfl (Nat.le_of_ble_eq_true rfl) dX11_flips_28 (fun v8 M9 rv8 hI p10 => ?_)
      obtain ⟨hI, hW⟩ := hI
      obtain ⟨⟨av8, bv8⟩, rfl⟩ := p10
      exact zxr_i F hQ hr hlk dX11_flips_31 ⟨by decide, by decide⟩ (by omega) ⟨hI, hW⟩ ⟨⟨by omega, by omega⟩, hF⟩
    · refine z_iload_n F dX11_flips_23 rfl (q := 0) rfl ?_
      refine z_goto (tgt := 31) F dX11_flips_24 (by decide +kernel) ?_
      exact zxr_i F hQ hr hlk dX11_flips_31 ⟨by decide, by decide⟩ (by omega) ⟨hI, hW⟩ ⟨⟨by omega, by omega⟩, hF⟩
set_option maxRecDepth 4000 in
theorem k_X3_refugeOf_57 (l : Launch) (M : Mem) (hJ : Iw M) (x0 : Int) (hx0a : 0 ≤ x0) (hx0b : x0 ≤ 7) : CI l yX3_refugeOf cX3_refugeOf 4 (some .int) 4 (fun ad => [.ref (ad 57), ii x0]) M (fun z M' => ((-1) ≤ z ∧ z ≤ 9) ∧ M = M') := by
  obtain ⟨hI, hW⟩ := hJ
  refine en_i (by decide +kernel) (fun ad => by exact Nat.le_of_ble_eq_true rfl) (fun D cy ad A p e s m args below meth c Q F hret => ?_)
  refine z_eq (ls' := [(0, .ref (ad 57)), (1, ii x0)]) rfl rfl rfl ?_
  refine z_iconst F dX3_refugeOf_0 ?_
  refine z_istore_n F dX3_refugeOf_1 rfl (by decide) (ls' := [(2, ii (-1)), (0, .ref (ad 57)), (1, ii x0)]) rfl ?_
  refine z_iconst F dX3_refugeOf_2 ?_
  refine z_istore_n F dX3_refugeOf_3 rfl (by decide) (ls' := [(3, ii 0), (2, ii (-1)), (0, .ref (ad 57)), (1, ii x0)]) rfl ?_
  refine z_loc [2, 3, 1, 0] (ls' := [(0, .ref (ad 57)), (1, ii x0), (2, ii (-1)), (3, ii 0)]) rfl ?_
  suffices key4 : ∀ (n : Nat) (y2 : Int) (y3 : Int), (-1) ≤ y2 → y2 ≤ 9 → 0 ≤ y3 → y3 ≤ 10 → 10 - y3 < (n : Int) → Z D cy ad p l e (RMh 4) s m args below meth c A 4 0 0 Q 4 [(0, .ref (ad 57)), (1, ii x0), (2, ii y2), (3, ii y3)] [] M from key4 11 (-1) 0 (by omega) (by omega) (by omega) (by omega) (by omega)
  intro n4
  induction n4 with
  | zero => intro y2 y3 ay2 by2 ay3 by3 hn4; exfalso; omega
  | succ n4 ih4 =>
    intro y2 y3 ay2 by2 ay3 by3 hn4
    refine z_iload_n F dX3_refugeOf_4 rfl (q := 3) rfl ?_
    refine z_aload_n F dX3_refugeOf_5 rfl (q := 0) rfl ?_
    refine rf_X3_9 F gs_57 rfl dX3_refugeOf_6 ?_
    refine gf_X3_60 F hI gs_2 rfl bd_2_1 dX3_refugeOf_9 (fun v4 ev4 av4 bv4 => ?_)
    refine z_icmp_ge (tgt := 73) F dX3_refugeOf_12 (by decide +kernel) (by omega) (by omega) (fun c5 => ?_) (fun c5 => ?_)
    · refine z_iload_n F dX3_refugeOf_73 rfl (q := 2) rfl ?_
      exact hret _ _ 74 _ (by omega) ⟨hI, hW⟩ ⟨⟨by omega, by omega⟩, rfl⟩ dX3_refugeOf_74
    · refine z_aload_n F dX3_refugeOf_15 rfl (q := 0) rfl ?_
      refine rf_X3_15 F gs_57 rfl dX3_refugeOf_16 ?_
      refine z_iload_n F dX3_refugeOf_19 rfl (q := 1) rfl ?_
      refine z_iload_n F dX3_refugeOf_20 rfl (q := 3) rfl ?_
      refine zv_i (rest := []) F (k_X7_obstacle_35 l M ⟨hI, hW⟩ x0 (by omega) (by omega) y3 (by omega) (by omega)) cs_X3_64 (T := TX7) (N := 7) (ci := 7) rfl gs_35 (by decide) (by decide) rfl rfl rfl (Nat.le_of_ble_eq_true rfl) dX3_refugeOf_21 (fun v6 M7 rv6 hI p8 => ?_)
      obtain ⟨hI, hW⟩ := hI
      obtain ⟨⟨av6, bv6⟩, rfl, xp8⟩ := p8
      refine z_if_ne (tgt := 67) F dX3_refugeOf_24 (by decide +kernel) (by omega) (fun c9 => ?_) (fun c9 => ?_)
      · refine z_iincN F dX3_refugeOf_67 (q := 3) rfl (by decide) (fun v10 ev10 => ?_)
        refine z_eq (ls' := [(3, ii v10), (0, .ref (ad 57)), (1, ii x0), (2, ii y2)]) rfl rfl rfl ?_
        refine z_goto (tgt := 4) F dX3_refugeOf_70 (by decide +kernel) ?_
        refine z_loc [1, 2, 3, 0] (ls' := [(0, .ref (ad 57)), (1, ii x0), (2, ii y2), (3, ii v10)]) rfl ?_
        exact ih4 y2 v10 (by omega) (by omega) (by omega) (by omega) (by omega)
      · refine z_aload_n F dX3_refugeOf_27 rfl (q := 0) rfl ?_
        refine rf_X3_15 F gs_57 rfl dX3_refugeOf_28 ?_
        refine z_iload_n F dX3_refugeOf_31 rfl (q := 1) rfl ?_
        refine z_iload_n F dX3_refugeOf_32 rfl (q := 3) rfl ?_
        refine zv_i (rest := []) F (k_X7_foesAt_35 l M ⟨hI, hW⟩ x0 (by omega) (by omega) y3 (by omega) (by omega)) cs_X3_67 (T := TX7) (N := 7) (ci := 7) rfl gs_35 (by decide) (by decide) rfl rfl rfl (Nat.le_of_ble_eq_true rfl) dX3_refugeOf_33 (fun v11 M12 rv11 hI p13 => ?_)
        obtain ⟨hI, hW⟩ := hI
        obtain ⟨⟨av11, bv11⟩, rfl⟩ := p13
        refine z_if_ne (tgt := 67) F dX3_refugeOf_36 (by decide +kernel) (by omega) (fun c14 => ?_) (fun c14 => ?_)
        · refine z_iincN F dX3_refugeOf_67 (q := 3) rfl (by decide) (fun v15 ev15 => ?_)
          refine z_eq (ls' := [(3, ii v15), (0, .ref (ad 57)), (1, ii x0), (2, ii y2)]) rfl rfl rfl ?_
          refine z_goto (tgt := 4) F dX3_refugeOf_70 (by decide +kernel) ?_
          refine z_loc [1, 2, 3, 0] (ls' := [(0, .ref (ad 57)), (1, ii x0), (2, ii y2), (3, ii v15)]) rfl ?_
          exact ih4 y2 v15 (by omega) (by omega) (by omega) (by omega) (by omega)
        · refine z_iload_n F dX3_refugeOf_39 rfl (q := 2) rfl ?_
          refine z_iconst F dX3_refugeOf_40 ?_
          refine z_icmp_eq (tgt := 65) F dX3_refugeOf_41 (by decide +kernel) (by omega) (by omega) (fun c16 => ?_) (fun c16 => ?_)
          · refine z_iload_n F dX3_refugeOf_65 rfl (q := 3) rfl ?_
            refine z_istore_n F dX3_refugeOf_66 rfl (by decide) (ls' := [(2, ii y3), (0, .ref (ad 57)), (1, ii x0), (3, ii y3)]) rfl ?_
            refine z_iincN F dX3_refugeOf_67 (q := 3) rfl (by decide) (fun v17 ev17 => ?_)
            refine z_eq (ls' := [(3, ii v17), (2, ii y3), (0, .ref (ad 57)), (1, ii x0)]) rfl rfl rfl ?_
            refine z_goto (tgt := 4) F dX3_refugeOf_70 (by decide +kernel) ?_
            refine z_loc [2, 3, 1, 0] (ls' := [(0, .ref (ad 57)), (1, ii x0), (2, ii y3), (3, ii v17)]) rfl ?_
            exact ih4 y3 v17 (by omega) (by omega) (by omega) (by omega) (by omega)
          · refine z_aload_n F dX3_refugeOf_44 rfl (q := 0) rfl ?_
            refine rf_X3_15 F gs_57 rfl dX3_refugeOf_45 ?_
            refine z_iload_n F dX3_refugeOf_48 rfl (q := 1) rfl ?_
            refine z_iload_n F dX3_refugeOf_49 rfl (q := 3) rfl ?_
            refine zv_i (rest := []) F (k_X7_minutesTo_35 l M ⟨hI, hW⟩ x0 (by omega) (by omega) y3 (by omega) (by omega)) cs_X3_41 (T := TX7) (N := 7) (ci := 7) rfl gs_35 (by decide) (by decide) rfl rfl rfl (Nat.le_of_ble_eq_true rfl) dX3_refugeOf_50 (fun v18 M19 rv18 hI p20 => ?_)
            obtain ⟨hI, hW⟩ := hI
            obtain ⟨⟨av18, bv18⟩, rfl⟩ := p20
            refine z_aload_n F dX3_refugeOf_53 rfl (q := 0) rfl ?_
            refine rf_X3_15 F gs_57 rfl dX3_refugeOf_54 ?_
            refine z_iload_n F dX3_refugeOf_57 rfl (q := 1) rfl ?_
            refine z_iload_n F dX3_refugeOf_58 rfl (q := 2) rfl ?_
            refine zv_i (rest := [ii v18]) F (k_X7_minutesTo_35 l M ⟨hI, hW⟩ x0 (by omega) (by omega) y2 (by omega) (by omega)) cs_X3_41 (T := TX7) (N := 7) (ci := 7) rfl gs_35 (by decide) (by decide) rfl rfl rfl (Nat.le_of_ble_eq_true rfl) dX3_refugeOf_59 (fun v21 M22 rv21 hI p23 => ?_)
            obtain ⟨hI, hW⟩ := hI
            obtain ⟨⟨av21, bv21⟩, rfl⟩ := p23
            refine z_icmp_ge (tgt := 67) F dX3_refugeOf_62 (by decide +kernel) (by omega) (by omega) (fun c24 => ?_) (fun c24 => ?_)
            · refine z_iincN F dX3_refugeOf_67 (q := 3) rfl (by decide) (fun v25 ev25 => ?_)
              refine z_eq (ls' := [(3, ii v25), (0, .ref (ad 57)), (1, ii x0), (2, ii y2)]) rfl rfl rfl ?_
              refine z_goto (tgt := 4) F dX3_refugeOf_70 (by decide +kernel) ?_
              refine z_loc [1, 2, 3, 0] (ls' := [(0, .ref (ad 57)), (1, ii x0), (2, ii y2), (3, ii v25)]) rfl ?_
              exact ih4 y2 v25 (by omega) (by omega) (by omega) (by omega) (by omega)
            · refine z_iload_n F dX3_refugeOf_65 rfl (q := 3) rfl ?_
              refine z_istore_n F dX3_refugeOf_66 rfl (by decide) (ls' := [(2, ii y3), (0, .ref (ad 57)), (1, ii x0), (3, ii y3)]) rfl ?_
              refine z_iincN F dX3_refugeOf_67 (q := 3) rfl (by decide) (fun v26 ev26 => ?_)
              refine z_eq (ls' := [(3, ii v26), (2, ii y3), (0, .ref (ad 57)), (1, ii x0)]) rfl rfl rfl ?_
              refine z_goto (tgt := 4) F dX3_refugeOf_70 (by decide +kernel) ?_
              refine z_loc [2, 3, 1, 0] (ls' := [(0, .ref (ad 57)), (1, ii x0), (2, ii y3), (3, ii v26)]) rfl ?_
              exact ih4 y3 v26 (by omega) (by omega) (by omega) (by omega) (by omega)
set_option maxRecDepth 4000 in
theorem k_X3_lesserGoes_57 (l : Launch) (M : Mem) (hJ : Iw M) (x0 : Int) (hx0a : 0 ≤ x0) (hx0b : x0 ≤ 7) (x1 : Int) (hx1a : 0 ≤ x1) (hx1b : x1 ≤ 9) (x2 : Int) (hx2a : 0 ≤ x2) (hx2b : x2 ≤ 7) (x3 : Int) (hx3a : 0 ≤ x3) (hx3b : x3 ≤ 9) : CI l yX3_lesserGoes cX3_lesserGoes 7 (some .boolean) 4 (fun ad => [.ref (ad 57), ii x0, ii x1, ii x2, ii x3]) M (fun z M' => (0 ≤ z ∧ z ≤ 1) ∧ M = M') := by
  obtain ⟨hI, hW⟩ := hJ
  refine en_z (by decide +kernel) (fun ad => by exact Nat.le_of_ble_eq_true rfl) (fun D cy ad A p e s m args below meth c Q F hret => ?_)
  refine z_eq (ls' := [(0, .ref (ad 57)), (1, ii x0), (2, ii x1), (3, ii x2), (4, ii x3)]) rfl rfl rfl ?_
  refine z_aload_n F dX3_lesserGoes_0 rfl (q := 0) rfl ?_
  refine rf_X3_15 F gs_57 rfl dX3_lesserGoes_1 ?_
  refine z_iload_n F dX3_lesserGoes_4 rfl (q := 1) rfl ?_
  refine z_iload_n F dX3_lesserGoes_5 rfl (q := 2) rfl ?_
  refine zv_i (rest := []) F (k_X7_minutesTo_35 l M ⟨hI, hW⟩ x0 (by omega) (by omega) x1 (by omega) (by omega)) cs_X3_41 (T := TX7) (N := 7) (ci := 7) rfl gs_35 (by decide) (by decide) rfl rfl rfl (Nat.le_of_ble_eq_true rfl) dX3_lesserGoes_6 (fun v1 M2 rv1 hI p3 => ?_)
  obtain ⟨hI, hW⟩ := hI
  obtain ⟨⟨av1, bv1⟩, rfl⟩ := p3
  refine z_istore F dX3_lesserGoes_9 (by decide) (ls' := [(5, ii v1), (0, .ref (ad 57)), (1, ii x0), (2, ii x1), (3, ii x2), (4, ii x3)]) rfl ?_
  refine z_aload_n F dX3_lesserGoes_11 rfl (q := 1) rfl ?_
  refine rf_X3_15 F gs_57 rfl dX3_lesserGoes_12 ?_
  refine z_iload_n F dX3_lesserGoes_15 rfl (q := 4) rfl ?_
  refine z_iload F dX3_lesserGoes_16 (q := 5) rfl ?_
  refine zv_i (rest := []) F (k_X7_minutesTo_35 l M ⟨hI, hW⟩ x2 (by omega) (by omega) x3 (by omega) (by omega)) cs_X3_41 (T := TX7) (N := 7) (ci := 7) rfl gs_35 (by decide) (by decide) rfl rfl rfl (Nat.le_of_ble_eq_true rfl) dX3_lesserGoes_18 (fun v4 M5 rv4 hI p6 => ?_)
  obtain ⟨hI, hW⟩ := hI
  obtain ⟨⟨av4, bv4⟩, rfl⟩ := p6
  refine z_istore F dX3_lesserGoes_21 (by decide) (ls' := [(6, ii v4), (5, ii v1), (0, .ref (ad 57)), (1, ii x0), (2, ii x1), (3, ii x2), (4, ii x3)]) rfl ?_
  refine z_iload F dX3_lesserGoes_23 (q := 1) rfl ?_
  refine z_iload F dX3_lesserGoes_25 (q := 0) rfl ?_
  refine z_icmp_eq (tgt := 43) F dX3_lesserGoes_27 (by decide +kernel) (by omega) (by omega) (fun c7 => ?_) (fun c7 => ?_)
  · refine z_aload_n F dX3_lesserGoes_43 rfl (q := 2) rfl ?_
    refine rf_X3_9 F gs_57 rfl dX3_lesserGoes_44 ?_
    refine rf_X3_44 F gs_2 rfl dX3_lesserGoes_47 ?_
    refine z_aload_n F dX3_lesserGoes_50 rfl (q := 2) rfl ?_
    refine rf_X3_15 F gs_57 rfl dX3_lesserGoes_51 ?_
    refine rf_X3_50 F gs_35 rfl dX3_lesserGoes_54 ?_
    refine z_iload_n F dX3_lesserGoes_57 rfl (q := 3) rfl ?_
    refine z_iald F hI gs_37 (by omega) (by omega) (by decide) bd_37 dX3_lesserGoes_58 (fun v8 (ev8 : v8 = M 37 _) av8 bv8 => ?_)
    refine zv_i (rest := []) F (k_X2_isEven_14 l M ⟨hI, hW⟩ v8 (by omega) (by omega)) cs_X3_54 (T := TX2) (N := 5) (ci := 2) rfl gs_14 (by decide) (by decide) rfl rfl rfl (Nat.le_of_ble_eq_true rfl) dX3_lesserGoes_59 (fun v9 M10 rv9 hI p11 => ?_)
    obtain ⟨hI, hW⟩ := hI
    obtain ⟨⟨av9, bv9⟩, rfl⟩ := p11
    refine z_if_eq (tgt := 91) F dX3_lesserGoes_62 (by decide +kernel) (by omega) (fun c12 => ?_) (fun c12 => ?_)
    · refine z_iconst F dX3_lesserGoes_91 ?_
      exact hret _ _ 92 _ ⟨by omega, by omega⟩ ⟨hI, hW⟩ ⟨⟨by omega, by omega⟩, rfl⟩ dX3_lesserGoes_92
    · refine z_aload_n F dX3_lesserGoes_65 rfl (q := 2) rfl ?_
      refine rf_X3_9 F gs_57 rfl dX3_lesserGoes_66 ?_
      refine rf_X3_44 F gs_2 rfl dX3_lesserGoes_69 ?_
      refine z_aload_n F dX3_lesserGoes_72 rfl (q := 2) rfl ?_
      refine rf_X3_15 F gs_57 rfl dX3_lesserGoes_73 ?_
      refine rf_X3_50 F gs_35 rfl dX3_lesserGoes_76 ?_
      refine z_iload_n F dX3_lesserGoes_79 rfl (q := 5) rfl ?_
      refine z_iald F hI gs_37 (by omega) (by omega) (by decide) bd_37 dX3_lesserGoes_80 (fun v13 (ev13 : v13 = M 37 _) av13 bv13 => ?_)
      refine zv_i (rest := []) F (k_X2_isEven_14 l M ⟨hI, hW⟩ v13 (by omega) (by omega)) cs_X3_54 (T := TX2) (N := 5) (ci := 2) rfl gs_14 (by decide) (by decide) rfl rfl rfl (Nat.le_of_ble_eq_true rfl) dX3_lesserGoes_81 (fun v14 M15 rv14 hI p16 => ?_)
      obtain ⟨hI, hW⟩ := hI
      obtain ⟨⟨av14, bv14⟩, rfl⟩ := p16
      refine z_if_ne (tgt := 91) F dX3_lesserGoes_84 (by decide +kernel) (by omega) (fun c17 => ?_) (fun c17 => ?_)
      · refine z_iconst F dX3_lesserGoes_91 ?_
        exact hret _ _ 92 _ ⟨by omega, by omega⟩ ⟨hI, hW⟩ ⟨⟨by omega, by omega⟩, rfl⟩ dX3_lesserGoes_92
      · refine z_iconst F dX3_lesserGoes_87 ?_
        refine z_goto (tgt := 92) F dX3_lesserGoes_88 (by decide +kernel) ?_
        exact hret _ _ 92 _ ⟨by omega, by omega⟩ ⟨hI, hW⟩ ⟨⟨by omega, by omega⟩, rfl⟩ dX3_lesserGoes_92
  · refine z_iload F dX3_lesserGoes_30 (q := 1) rfl ?_
    refine z_iload F dX3_lesserGoes_32 (q := 0) rfl ?_
    refine z_icmp_ge (tgt := 41) F dX3_lesserGoes_34 (by decide +kernel) (by omega) (by omega) (fun c18 => ?_) (fun c18 => ?_)
    · refine z_iconst F dX3_lesserGoes_41 ?_
      exact hret _ _ 42 _ ⟨by omega, by omega⟩ ⟨hI, hW⟩ ⟨⟨by omega, by omega⟩, rfl⟩ dX3_lesserGoes_42
    · refine z_iconst F dX3_lesserGoes_37 ?_
      refine z_goto (tgt := 42) F dX3_lesserGoes_38 (by decide +kernel) ?_
      exact hret _ _ 42 _ ⟨by omega, by omega⟩ ⟨hI, hW⟩ ⟨⟨by omega, by omega⟩, rfl⟩ dX3_lesserGoes_42
set_option maxRecDepth 4000 in
theorem k_X3_oneGivesWay_57 (l : Launch) (M : Mem) (hJ : Iw M) (x0 : Int) (hx0a : 0 ≤ x0) (hx0b : x0 ≤ 7) (x1 : Int) (hx1a : 0 ≤ x1) (hx1b : x1 ≤ 7) : CI l yX3_oneGivesWay cX3_oneGivesWay 5 (some .boolean) 6 (fun ad => [.ref (ad 57), ii x0, ii x1]) M (fun z M' => (0 ≤ z ∧ z ≤ 1) ∧ Fr [35, 36] M M') := by
  obtain ⟨hI, hW⟩ := hJ
  have hF : Fr [35, 36] M M := Fr.rf
  refine en_z (by decide +kernel) (fun ad => by exact Nat.le_of_ble_eq_true rfl) (fun D cy ad A p e s m args below meth c Q F hret => ?_)
  refine z_eq (ls' := [(0, .ref (ad 57)), (1, ii x0), (2, ii x1)]) rfl rfl rfl ?_
  refine z_aload_n F dX3_oneGivesWay_0 rfl (q := 0) rfl ?_
  refine z_iload_n F dX3_oneGivesWay_1 rfl (q := 1) rfl ?_
  refine zv_i (rest := []) F (k_X3_refugeOf_57 l M ⟨hI, hW⟩ x0 (by omega) (by omega)) cs_X3_29 (T := TX3) (N := 2) (ci := 3) rfl gs_57 (by decide) (by decide) rfl rfl rfl (Nat.le_of_ble_eq_true rfl) dX3_oneGivesWay_2 (fun v1 M2 rv1 hI p3 => ?_)
  obtain ⟨hI, hW⟩ := hI
  obtain ⟨⟨av1, bv1⟩, rfl⟩ := p3
  refine z_istore_n F dX3_oneGivesWay_5 rfl (by decide) (ls' := [(3, ii v1), (0, .ref (ad 57)), (1, ii x0), (2, ii x1)]) rfl ?_
  refine z_aload_n F dX3_oneGivesWay_6 rfl (q := 1) rfl ?_
  refine z_iload_n F dX3_oneGivesWay_7 rfl (q := 3) rfl ?_
  refine zv_i (rest := []) F (k_X3_refugeOf_57 l M ⟨hI, hW⟩ x1 (by omega) (by omega)) cs_X3_29 (T := TX3) (N := 2) (ci := 3) rfl gs_57 (by decide) (by decide) rfl rfl rfl (Nat.le_of_ble_eq_true rfl) dX3_oneGivesWay_8 (fun v4 M5 rv4 hI p6 => ?_)
  obtain ⟨hI, hW⟩ := hI
  obtain ⟨⟨av4, bv4⟩, rfl⟩ := p6
  refine z_istore F dX3_oneGivesWay_11 (by decide) (ls' := [(4, ii v4), (3, ii v1), (0, .ref (ad 57)), (1, ii x0), (2, ii x1)]) rfl ?_
  refine z_iload_n F dX3_oneGivesWay_13 rfl (q := 1) rfl ?_
  refine z_iconst F dX3_oneGivesWay_14 ?_
  refine z_icmp_ne (tgt := 26) F dX3_oneGivesWay_15 (by decide +kernel) (by omega) (by omega) (fun c7 => ?_) (fun c7 => ?_)
  · refine z_iload F dX3_oneGivesWay_26 (q := 0) rfl ?_
    refine z_iconst F dX3_oneGivesWay_28 ?_
    refine z_icmp_eq (tgt := 49) F dX3_oneGivesWay_29 (by decide +kernel) (by omega) (by omega) (fun c8 => ?_) (fun c8 => ?_)
    · refine z_aload_n F dX3_oneGivesWay_49 rfl (q := 2) rfl ?_
      refine rf_X3_15 F gs_57 rfl dX3_oneGivesWay_50 ?_
      refine z_iload_n F dX3_oneGivesWay_53 rfl (q := 3) rfl ?_
      refine z_iload_n F dX3_oneGivesWay_54 rfl (q := 1) rfl ?_
      refine zv_i (rest := []) F (k_X7_shift_35 l M ⟨hI, hW⟩ x0 (by omega) (by omega) v1 (by omega) (by omega)) cs_X3_37 (T := TX7) (N := 7) (ci := 7) rfl gs_35 (by decide) (by decide) rfl rfl rfl (Nat.le_of_ble_eq_true rfl) dX3_oneGivesWay_55 (fun v9 M10 rv9 hI p11 => ?_)
      obtain ⟨hI, hW⟩ := hI
      obtain ⟨⟨av9, bv9⟩, fp11⟩ := p11
      have hF := hF.call fp11 (by decide)
      refine z_pop F dX3_oneGivesWay_58 rfl ?_
      refine z_goto (tgt := 73) F dX3_oneGivesWay_59 (by decide +kernel) ?_
      refine z_iconst F dX3_oneGivesWay_73 ?_
      exact hret _ _ 74 _ ⟨by omega, by omega⟩ ⟨hI, hW⟩ ⟨⟨by omega, by omega⟩, hF⟩ dX3_oneGivesWay_74
    · refine z_iload_n F dX3_oneGivesWay_32 rfl (q := 1) rfl ?_
      refine z_iconst F dX3_oneGivesWay_33 ?_
      refine z_icmp_eq (tgt := 62) F dX3_oneGivesWay_34 (by decide +kernel) (by omega) (by omega) (fun c12 => by exfalso; omega) (fun c12 => ?_)
      refine z_aload_n F dX3_oneGivesWay_37 rfl (q := 2) rfl ?_
      refine z_iload_n F dX3_oneGivesWay_38 rfl (q := 3) rfl ?_
      refine z_iload_n F dX3_oneGivesWay_39 rfl (q := 1) rfl ?_
      refine z_iload_n F dX3_oneGivesWay_40 rfl (q := 4) rfl ?_
      refine z_iload F dX3_oneGivesWay_41 (q := 0) rfl ?_
      refine zv_i (rest := []) F (k_X3_lesserGoes_57 l M ⟨hI, hW⟩ x0 (by omega) (by omega) v1 (by omega) (by omega) x1 (by omega) (by omega) v4 (by omega) (by omega)) cs_X3_33 (T := TX3) (N := 2) (ci := 3) rfl gs_57 (by decide) (by decide) rfl rfl rfl (Nat.le_of_ble_eq_true rfl) dX3_oneGivesWay_43 (fun v13 M14 rv13 hI p15 => ?_)
      obtain ⟨hI, hW⟩ := hI
      obtain ⟨⟨av13, bv13⟩, rfl⟩ := p15
      refine z_if_eq (tgt := 62) F dX3_oneGivesWay_46 (by decide +kernel) (by omega) (fun c16 => ?_) (fun c16 => ?_)
      · refine z_aload_n F dX3_oneGivesWay_62 rfl (q := 2) rfl ?_
        refine rf_X3_15 F gs_57 rfl dX3_oneGivesWay_63 ?_
        refine z_iload_n F dX3_oneGivesWay_66 rfl (q := 4) rfl ?_
        refine z_iload F dX3_oneGivesWay_67 (q := 0) rfl ?_
        refine zv_i (rest := []) F (k_X7_shift_35 l M ⟨hI, hW⟩ x1 (by omega) (by omega) v4 (by omega) (by omega)) cs_X3_37 (T := TX7) (N := 7) (ci := 7) rfl gs_35 (by decide) (by decide) rfl rfl rfl (Nat.le_of_ble_eq_true rfl) dX3_oneGivesWay_69 (fun v17 M18 rv17 hI p19 => ?_)
        obtain ⟨hI, hW⟩ := hI
        obtain ⟨⟨av17, bv17⟩, fp19⟩ := p19
        have hF := hF.call fp19 (by decide)
        refine z_pop F dX3_oneGivesWay_72 rfl ?_
        refine z_iconst F dX3_oneGivesWay_73 ?_
        exact hret _ _ 74 _ ⟨by omega, by omega⟩ ⟨hI, hW⟩ ⟨⟨by omega, by omega⟩, hF⟩ dX3_oneGivesWay_74
      · refine z_aload_n F dX3_oneGivesWay_49 rfl (q := 2) rfl ?_
        refine rf_X3_15 F gs_57 rfl dX3_oneGivesWay_50 ?_
        refine z_iload_n F dX3_oneGivesWay_53 rfl (q := 3) rfl ?_
        refine z_iload_n F dX3_oneGivesWay_54 rfl (q := 1) rfl ?_
        refine zv_i (rest := []) F (k_X7_shift_35 l M ⟨hI, hW⟩ x0 (by omega) (by omega) v1 (by omega) (by omega)) cs_X3_37 (T := TX7) (N := 7) (ci := 7) rfl gs_35 (by decide) (by decide) rfl rfl rfl (Nat.le_of_ble_eq_true rfl) dX3_oneGivesWay_55 (fun v20 M21 rv20 hI p22 => ?_)
        obtain ⟨hI, hW⟩ := hI
        obtain ⟨⟨av20, bv20⟩, fp22⟩ := p22
        have hF := hF.call fp22 (by decide)
        refine z_pop F dX3_oneGivesWay_58 rfl ?_
        refine z_goto (tgt := 73) F dX3_oneGivesWay_59 (by decide +kernel) ?_
        refine z_iconst F dX3_oneGivesWay_73 ?_
        exact hret _ _ 74 _ ⟨by omega, by omega⟩ ⟨hI, hW⟩ ⟨⟨by omega, by omega⟩, hF⟩ dX3_oneGivesWay_74
  · refine z_iload F dX3_oneGivesWay_18 (q := 0) rfl ?_
    refine z_iconst F dX3_oneGivesWay_20 ?_
    refine z_icmp_ne (tgt := 26) F dX3_oneGivesWay_21 (by decide +kernel) (by omega) (by omega) (fun c23 => ?_) (fun c23 => ?_)
    · refine z_iload F dX3_oneGivesWay_26 (q := 0) rfl ?_
      refine z_iconst F dX3_oneGivesWay_28 ?_
      refine z_icmp_eq (tgt := 49) F dX3_oneGivesWay_29 (by decide +kernel) (by omega) (by omega) (fun c24 => by exfalso; omega) (fun c24 => ?_)
      refine z_iload_n F dX3_oneGivesWay_32 rfl (q := 1) rfl ?_
      refine z_iconst F dX3_oneGivesWay_33 ?_
      refine z_icmp_eq (tgt := 62) F dX3_oneGivesWay_34 (by decide +kernel) (by omega) (by omega) (fun c25 => ?_) (fun c25 => by exfalso; omega)
      refine z_aload_n F dX3_oneGivesWay_62 rfl (q := 2) rfl ?_
      refine rf_X3_15 F gs_57 rfl dX3_oneGivesWay_63 ?_
      refine z_iload_n F dX3_oneGivesWay_66 rfl (q := 4) rfl ?_
      refine z_iload F dX3_oneGivesWay_67 (q := 0) rfl ?_
      refine zv_i (rest := []) F (k_X7_shift_35 l M ⟨hI, hW⟩ x1 (by omega) (by omega) v4 (by omega) (by omega)) cs_X3_37 (T := TX7) (N := 7) (ci := 7) rfl gs_35 (by decide) (by decide) rfl rfl rfl (Nat.le_of_ble_eq_true rfl) dX3_oneGivesWay_69 (fun v26 M27 rv26 hI p28 => ?_)
      obtain ⟨hI, hW⟩ := hI
      obtain ⟨⟨av26, bv26⟩, fp28⟩ := p28
      have hF := hF.call fp28 (by decide)
      refine z_pop F dX3_oneGivesWay_72 rfl ?_
      refine z_iconst F dX3_oneGivesWay_73 ?_
      exact hret _ _ 74 _ ⟨by omega, by omega⟩ ⟨hI, hW⟩ ⟨⟨by omega, by omega⟩, hF⟩ dX3_oneGivesWay_74
    · refine z_iconst F dX3_oneGivesWay_24 ?_
      exact hret _ _ 25 _ ⟨by omega, by omega⟩ ⟨hI, hW⟩ ⟨⟨by omega, by omega⟩, hF⟩ dX3_oneGivesWay_25
set_option maxRecDepth 4000 in
theorem k_X3_runWave_57 (l : Launch) (M : Mem) (hJ : Iw M) : CI l yX3_runWave cX3_runWave 3 (some .int) 7 (fun ad => [.ref (ad 57)]) M (fun z M' => (0 ≤ z ∧ z ≤ 50) ∧ Fr [35, 36] M M') := by
  obtain ⟨hI, hW⟩ := hJ
  have hF : Fr [35, 36] M M := Fr.rf
  refine en_i (by decide +kernel) (fun ad => by exact Nat.le_of_ble_eq_true rfl) (fun D cy ad A p e s m args below meth c Q F hret => ?_)
  refine z_eq (ls' := [(0, .ref (ad 57))]) rfl rfl rfl ?_
  refine z_iconst F dX3_runWave_0 ?_
  refine z_istore_n F dX3_runWave_1 rfl (by decide) (ls' := [(1, ii 0), (0, .ref (ad 57))]) rfl ?_
  refine z_loc [1, 0] (ls' := [(0, .ref (ad 57)), (1, ii 0)]) rfl ?_
  suffices key2 : ∀ (n : Nat) (y2 : Int) (M1 : Mem), Inv M1 → WFk M1 → Fr [35, 36] M M1 → 0 ≤ y2 → y2 ≤ 50 → 50 - y2 < (n : Int) → Z D cy ad p l e (RMh 7) s m args below meth c A 3 0 0 Q 2 [(0, .ref (ad 57)), (1, ii y2)] [] M1 from key2 51 0 M hI hW hF (by omega) (by omega) (by omega)
  intro n2
  induction n2 with
  | zero => intro y2 M1 hI hW hF ay2 by2 hn2; exfalso; omega
  | succ n2 ih2 =>
    intro y2 M1 hI hW hF ay2 by2 hn2
    refine z_iload_n F dX3_runWave_2 rfl (q := 1) rfl ?_
    refine z_bipush F dX3_runWave_3 (by decide +kernel) ?_
    refine z_icmp_ge (tgt := 44) F dX3_runWave_5 (by decide +kernel) (by omega) (by omega) (fun c3 => ?_) (fun c3 => ?_)
    · refine z_bipush F dX3_runWave_44 (by decide +kernel) ?_
      exact hret _ _ 46 _ (by omega) ⟨hI, hW⟩ ⟨⟨by omega, by omega⟩, hF⟩ dX3_runWave_46
    · refine z_aload_n F dX3_runWave_8 rfl (q := 0) rfl ?_
      refine rf_X3_15 F gs_57 rfl dX3_runWave_9 ?_
      refine zv_i (rest := []) F (k_X7_firstTwo_35 l M1 ⟨hI, hW⟩) cs_X3_19 (T := TX7) (N := 7) (ci := 7) rfl gs_35 (by decide) (by decide) rfl rfl rfl (Nat.le_of_ble_eq_true rfl) dX3_runWave_12 (fun v4 M5 rv4 hI p6 => ?_)
      obtain ⟨hI, hW⟩ := hI
      obtain ⟨⟨av4, bv4⟩, rfl, xp6⟩ := p6
      refine z_istore_n F dX3_runWave_15 rfl (by decide) (ls' := [(2, ii v4), (0, .ref (ad 57)), (1, ii y2)]) rfl ?_
      refine z_iload_n F dX3_runWave_16 rfl (q := 0) rfl ?_
      refine z_iconst F dX3_runWave_17 ?_
      refine z_icmp_eq (tgt := 36) F dX3_runWave_18 (by decide +kernel) (by omega) (by omega) (fun c7 => ?_) (fun c7 => ?_)
      · refine z_iload_n F dX3_runWave_36 rfl (q := 2) rfl ?_
        exact hret _ _ 37 _ (by omega) ⟨hI, hW⟩ ⟨⟨by omega, by omega⟩, hF⟩ dX3_runWave_37
      · refine z_aload_n F dX3_runWave_21 rfl (q := 1) rfl ?_
        refine z_iload_n F dX3_runWave_22 rfl (q := 0) rfl ?_
        refine z_bipush F dX3_runWave_23 (by decide +kernel) ?_
        refine z_idiv_p F dX3_runWave_25 (by omega) (by omega) (by omega) (by omega) (fun v8 ev8 => ?_)
        refine z_iload_n F dX3_runWave_26 rfl (q := 0) rfl ?_
        refine z_bipush F dX3_runWave_27 (by decide +kernel) ?_
        refine z_irem_p F dX3_runWave_29 (by omega) (by omega) (by omega) (by omega) (fun v9 ev9 => ?_)
        have k10 : 0 ≤ v9 ∧ v9 ≤ 7 := by omega
        have k11 : 0 ≤ v8 ∧ v8 ≤ 7 := by omega
        refine zv_i (rest := []) F (k_X3_oneGivesWay_57 l M1 ⟨hI, hW⟩ v8 (by omega) (by omega) v9 (by omega) (by omega)) cs_X3_25 (T := TX3) (N := 2) (ci := 3) rfl gs_57 (by decide) (by decide) rfl rfl rfl (Nat.le_of_ble_eq_true rfl) dX3_runWave_30 (fun v12 M13 rv12 hI p14 => ?_)
        obtain ⟨hI, hW⟩ := hI
        obtain ⟨⟨av12, bv12⟩, fp14⟩ := p14
        have hF := hF.call fp14 (by decide)
        refine z_if_ne (tgt := 38) F dX3_runWave_33 (by decide +kernel) (by omega) (fun c15 => ?_) (fun c15 => ?_)
        · refine z_iincN F dX3_runWave_38 (q := 2) rfl (by decide) (fun v16 ev16 => ?_)
          refine z_eq (ls' := [(1, ii v16), (2, ii v4), (0, .ref (ad 57))]) rfl rfl rfl ?_
          refine z_goto (tgt := 2) F dX3_runWave_41 (by decide +kernel) ?_
          refine z_loc [2, 0] (ls' := [(0, .ref (ad 57)), (1, ii v16)]) rfl ?_
          exact ih2 v16 M13 hI hW hF (by omega) (by omega) (by omega)
        · refine z_iload_n F dX3_runWave_36 rfl (q := 2) rfl ?_
          exact hret _ _ 37 _ (by omega) ⟨hI, hW⟩ ⟨⟨by omega, by omega⟩, hF⟩ dX3_runWave_37
set_option maxRecDepth 4000 in
theorem k_X11_wave (l : Launch) (hlT : l.stackTraces = false) (M : Mem) (hJ : Iw M) (x0 : Int) (hx0a : (-2147483648) ≤ x0) (hx0b : x0 ≤ 2147483647) : CIX l yX11_wave cX11_wave 6 (some .int) 8 1 (fun ad => [.ref (ad 0), ii x0]) M (fun z M' => ((-2147483648) ≤ z ∧ z ≤ 2147483647) ∧ Fr [35, 36, 37, 38, 39, 42] M M') (fun E M' => (E = "java/lang/IllegalArgumentException" ∧ True ∧ Fr [35, 36, 37, 38, 39, 42] M M')) := by
  obtain ⟨hI, hW⟩ := hJ
  have hF : Fr [35, 36, 37, 38, 39, 42] M M := Fr.rf
  refine enx_i (by decide +kernel) (fun ad => by exact Nat.le_of_ble_eq_true rfl) (fun D cy ad A p e s m args below meth c Q F hQ hr hlk hex => ?_)
  refine z_eq (ls' := [(0, .ref (ad 0)), (1, ii x0)]) rfl rfl rfl ?_
  refine z_iload_n F dX11_wave_0 rfl (q := 1) rfl ?_
  refine z_iconst F dX11_wave_1 ?_
  refine zz_v (rest := []) F (k_X11_needWhat l hlT M ⟨hI, hW⟩ x0 (by omega) (by omega) 2 (by omega) (by omega)) cs_X11_252 (by decide) (by decide) ⟨by decide, by decide⟩ rfl rfl rfl (Nat.le_of_ble_eq_true rfl) dX11_wave_2 (fun E M9 hJ9 hx => by obtain ⟨h9, g9, rfl⟩ := hx <;> first | (exact zx_out hQ hlk hex ⟨by decide, by decide⟩ hJ9 (⟨h9, trivial, hF⟩))) (fun M1 hI p2 => ?_)
  obtain ⟨hI, hW⟩ := hI
  obtain ⟨rfl, xp2⟩ := p2
  refine z_aload_n F dX11_wave_5 rfl (q := 0) rfl ?_
  refine rf_X11_34 F gs_0 rfl dX11_wave_6 ?_
  refine gf_X11_255 F hI gs_35 rfl bd_35_5 dX11_wave_9 (fun v3 ev3 av3 bv3 => ?_)
  refine z_istore_n F dX11_wave_12 rfl (by decide) (ls' := [(2, ii v3), (0, .ref (ad 0)), (1, ii x0)]) rfl ?_
  refine z_aload_n F dX11_wave_13 rfl (q := 1) rfl ?_
  refine rf_X11_34 F gs_0 rfl dX11_wave_14 ?_
  refine z_aload_n F dX11_wave_17 rfl (q := 1) rfl ?_
  refine rf_X11_45 F gs_0 rfl dX11_wave_18 ?_
  refine z_iconst F dX11_wave_21 ?_
  refine zw_v (rest := []) F (k_X7_save_35_42 l M ⟨hI, hW⟩ 0 (by omega) (by omega) (by omega)) cs_X11_258 (T := TX7) (N := 7) (ci := 7) rfl gs_35 (by decide) (by decide) ⟨by decide, by decide⟩ rfl rfl rfl (Nat.le_of_ble_eq_true rfl) dX11_wave_22 (fun M4 hI p5 => ?_)
  obtain ⟨hI, hW⟩ := hI
  have fp5 := p5
  have hF := hF.call fp5 (by decide)
  refine z_aload_n F dX11_wave_25 rfl (q := 1) rfl ?_
  refine rf_X11_80 F gs_0 rfl dX11_wave_26 ?_
  refine zw_i (rest := []) F (k_X3_runWave_57 l M4 ⟨hI, hW⟩) cs_X11_354 (T := TX3) (N := 2) (ci := 3) rfl gs_57 (by decide) (by decide) ⟨by decide, by decide⟩ rfl rfl rfl (Nat.le_of_ble_eq_true rfl) dX11_wave_29 (fun v6 M7 rv6 hI p8 => ?_)
  obtain ⟨hI, hW⟩ := hI
  obtain ⟨⟨av6, bv6⟩, fp8⟩ := p8
  have hF := hF.call fp8 (by decide)
  refine z_istore_n F dX11_wave_32 rfl (by decide) (ls' := [(3, ii v6), (2, ii v3), (0, .ref (ad 0)), (1, ii x0)]) rfl ?_
  refine z_aload_n F dX11_wave_33 rfl (q := 2) rfl ?_
  refine rf_X11_34 F gs_0 rfl dX11_wave_34 ?_
  refine gf_X11_255 F hI gs_35 rfl bd_35_5 dX11_wave_37 (fun v9 ev9 av9 bv9 => ?_)
  have q10 : v3 = M4 35 5 := ev3.trans ((fp5.at (by decide)) : M4 35 5 = _).symm
  refine z_iload_n F dX11_wave_40 rfl (q := 1) rfl ?_
  refine z_isub F dX11_wave_41 ?_
  refine z_wrap (fun v11 rv11 wv11 => ?_)
  refine z_istore F dX11_wave_42 (by decide) (ls' := [(4, ii v11), (3, ii v6), (2, ii v3), (0, .ref (ad 0)), (1, ii x0)]) rfl ?_
  refine z_aload_n F dX11_wave_44 rfl (q := 3) rfl ?_
  refine rf_X11_34 F gs_0 rfl dX11_wave_45 ?_
  refine zw_i (rest := []) F (k_X7_clashCount_35 l M7 ⟨hI, hW⟩) cs_X11_193 (T := TX7) (N := 7) (ci := 7) rfl gs_35 (by decide) (by decide) ⟨by decide, by decide⟩ rfl rfl rfl (Nat.le_of_ble_eq_true rfl) dX11_wave_48 (fun v12 M13 rv12 hI p14 => ?_)
  obtain ⟨hI, hW⟩ := hI
  obtain ⟨⟨av12, bv12⟩, rfl⟩ := p14
  refine z_istore F dX11_wave_51 (by decide) (ls' := [(5, ii v12), (4, ii v11), (3, ii v6), (2, ii v3), (0, .ref (ad 0)), (1, ii x0)]) rfl ?_
  refine z_aload_n F dX11_wave_53 rfl (q := 4) rfl ?_
  refine rf_X11_34 F gs_0 rfl dX11_wave_54 ?_
  refine z_aload_n F dX11_wave_57 rfl (q := 4) rfl ?_
  refine rf_X11_45 F gs_0 rfl dX11_wave_58 ?_
  refine z_iconst F dX11_wave_61 ?_
  refine zw_v (rest := []) F (k_X7_load_35_42 l M7 ⟨hI, hW⟩ 0 (by omega) (by omega) (by omega)) cs_X11_275 (T := TX7) (N := 7) (ci := 7) rfl gs_35 (by decide) (by decide) ⟨by decide, by decide⟩ rfl rfl rfl (Nat.le_of_ble_eq_true rfl) dX11_wave_62 (fun M15 hI p16 => ?_)
  obtain ⟨hI, hW⟩ := hI
  have fp16 := p16
  have hF := hF.call fp16 (by decide)
  refine z_iload_n F dX11_wave_65 rfl (q := 5) rfl ?_
  refine z_if_ne (tgt := 71) F dX11_wave_66 (by decide +kernel) (by omega) (fun c17 => ?_) (fun c17 => ?_)
  · refine z_iload_n F dX11_wave_71 rfl (q := 5) rfl ?_
    refine z_iconst F dX11_wave_72 ?_
    refine z_icmp_ne (tgt := 81) F dX11_wave_73 (by decide +kernel) (by omega) (by omega) (fun c18 => ?_) (fun c18 => ?_)
    · refine z_iload F dX11_wave_81 (q := 0) rfl ?_
      exact zxr_i F hQ hr hlk dX11_wave_83 ⟨by decide, by decide⟩ (by omega) ⟨hI, hW⟩ ⟨⟨by omega, by omega⟩, hF⟩
    · refine z_iload F dX11_wave_76 (q := 1) rfl ?_
      refine z_goto (tgt := 83) F dX11_wave_78 (by decide +kernel) ?_
      exact zxr_i F hQ hr hlk dX11_wave_83 ⟨by decide, by decide⟩ (by omega) ⟨hI, hW⟩ ⟨⟨by omega, by omega⟩, hF⟩
  · refine z_iload_n F dX11_wave_69 rfl (q := 2) rfl ?_
    exact zxr_i F hQ hr hlk dX11_wave_70 ⟨by decide, by decide⟩ (by omega) ⟨hI, hW⟩ ⟨⟨by omega, by omega⟩, hF⟩
set_option maxRecDepth 4000 in
theorem k_X11_goWave (l : Launch) (M : Mem) (hJ : Iw M) : CI l yX11_goWave cX11_goWave 1 (some .int) 8 (fun ad => [.ref (ad 0)]) M (fun z M' => (0 ≤ z ∧ z ≤ 50) ∧ Fr [35, 36, 40, 41] M M') := by
  obtain ⟨hI, hW⟩ := hJ
  have hF : Fr [35, 36, 40, 41] M M := Fr.rf
  refine en_i (by decide +kernel) (fun ad => by exact Nat.le_of_ble_eq_true rfl) (fun D cy ad A p e s m args below meth c Q F hret => ?_)
  refine z_eq (ls' := [(0, .ref (ad 0))]) rfl rfl rfl ?_
  refine z_aload_n F dX11_goWave_0 rfl (q := 0) rfl ?_
  refine rf_X11_41 F gs_0 rfl dX11_goWave_1 ?_
  refine z_aload_n F dX11_goWave_4 rfl (q := 0) rfl ?_
  refine rf_X11_34 F gs_0 rfl dX11_goWave_5 ?_
  refine zv_v (rest := []) F (k_X4_keep_40_35 l M ⟨hI, hW⟩) cs_X11_217 (T := TX4) (N := 3) (ci := 4) rfl gs_40 (by decide) (by decide) rfl rfl rfl (Nat.le_of_ble_eq_true rfl) dX11_goWave_8 (fun M1 hI p2 => ?_)
  obtain ⟨hI, hW⟩ := hI
  have fp2 := p2
  have hF := hF.call fp2 (by decide)
  refine z_aload_n F dX11_goWave_11 rfl (q := 0) rfl ?_
  refine rf_X11_80 F gs_0 rfl dX11_goWave_12 ?_
  refine zv_i (rest := []) F (k_X3_runWave_57 l M1 ⟨hI, hW⟩) cs_X11_354 (T := TX3) (N := 2) (ci := 3) rfl gs_57 (by decide) (by decide) rfl rfl rfl (Nat.le_of_ble_eq_true rfl) dX11_goWave_15 (fun v3 M4 rv3 hI p5 => ?_)
  obtain ⟨hI, hW⟩ := hI
  obtain ⟨⟨av3, bv3⟩, fp5⟩ := p5
  have hF := hF.call fp5 (by decide)
  exact hret _ _ 18 _ (by omega) ⟨hI, hW⟩ ⟨⟨by omega, by omega⟩, hF⟩ dX11_goWave_18
set_option maxRecDepth 4000 in
theorem k_X0_rubsOf_49 (l : Launch) (M : Mem) (hJ : Iw M) (x0 : Int) (hx0a : 0 ≤ x0) (hx0b : x0 ≤ 7) : CI l yX0_rubsOf cX0_rubsOf 6 (some .int) 5 (fun ad => [.ref (ad 49), ii x0]) M (fun z M' => ((-2147483648) ≤ z ∧ z ≤ 2147483647) ∧ Fr [16, 17] M M') := by
  obtain ⟨hI, hW⟩ := hJ
  have hF : Fr [16, 17] M M := Fr.rf
  refine en_i (by decide +kernel) (fun ad => by exact Nat.le_of_ble_eq_true rfl) (fun D cy ad A p e s m args below meth c Q F hret => ?_)
  refine z_eq (ls' := [(0, .ref (ad 49)), (1, ii x0)]) rfl rfl rfl ?_
  refine z_iconst F dX0_rubsOf_0 ?_
  refine z_istore_n F dX0_rubsOf_1 rfl (by decide) (ls' := [(2, ii 0), (0, .ref (ad 49)), (1, ii x0)]) rfl ?_
  refine z_iconst F dX0_rubsOf_2 ?_
  refine z_istore_n F dX0_rubsOf_3 rfl (by decide) (ls' := [(3, ii 0), (2, ii 0), (0, .ref (ad 49)), (1, ii x0)]) rfl ?_
  refine z_loc [2, 3, 1, 0] (ls' := [(0, .ref (ad 49)), (1, ii x0), (2, ii 0), (3, ii 0)]) rfl ?_
  suffices key4 : ∀ (n : Nat) (y2 : Int) (y3 : Int) (M1 : Mem), Inv M1 → WFk M1 → Fr [16, 17] M M1 → (-2147483648) ≤ y2 → y2 ≤ 2147483647 → 0 ≤ y3 → y3 ≤ 8 → 8 - y3 < (n : Int) → Z D cy ad p l e (RMh 5) s m args below meth c A 6 0 0 Q 4 [(0, .ref (ad 49)), (1, ii x0), (2, ii y2), (3, ii y3)] [] M1 from key4 9 0 0 M hI hW hF (by omega) (by omega) (by omega) (by omega) (by omega)
  intro n4
  induction n4 with
  | zero => intro y2 y3 M1 hI hW hF ay2 by2 ay3 by3 hn4; exfalso; omega
  | succ n4 ih4 =>
    intro y2 y3 M1 hI hW hF ay2 by2 ay3 by3 hn4
    refine z_iload_n F dX0_rubsOf_4 rfl (q := 3) rfl ?_
    refine z_aload_n F dX0_rubsOf_5 rfl (q := 0) rfl ?_
    refine rf_X0_34 F gs_49 rfl dX0_rubsOf_6 ?_
    refine gf_X0_72 F hI gs_2 rfl bd_2_3 dX0_rubsOf_9 (fun v4 ev4 av4 bv4 => ?_)
    refine z_icmp_ge (tgt := 82) F dX0_rubsOf_12 (by decide +kernel) (by omega) (by omega) (fun c5 => ?_) (fun c5 => ?_)
    · refine z_iload_n F dX0_rubsOf_82 rfl (q := 2) rfl ?_
      exact hret _ _ 83 _ (by omega) ⟨hI, hW⟩ ⟨⟨by omega, by omega⟩, hF⟩ dX0_rubsOf_83
    · refine z_iload_n F dX0_rubsOf_15 rfl (q := 3) rfl ?_
      refine z_iload_n F dX0_rubsOf_16 rfl (q := 1) rfl ?_
      refine z_icmp_eq (tgt := 76) F dX0_rubsOf_17 (by decide +kernel) (by omega) (by omega) (fun c6 => ?_) (fun c6 => ?_)
      · refine z_iincN F dX0_rubsOf_76 (q := 3) rfl (by decide) (fun v7 ev7 => ?_)
        refine z_eq (ls' := [(3, ii v7), (0, .ref (ad 49)), (1, ii x0), (2, ii y2)]) rfl rfl rfl ?_
        refine z_goto (tgt := 4) F dX0_rubsOf_79 (by decide +kernel) ?_
        refine z_loc [1, 2, 3, 0] (ls' := [(0, .ref (ad 49)), (1, ii x0), (2, ii y2), (3, ii v7)]) rfl ?_
        exact ih4 y2 v7 M1 hI hW hF (by omega) (by omega) (by omega) (by omega) (by omega)
      · refine z_aload_n F dX0_rubsOf_20 rfl (q := 0) rfl ?_
        refine z_iload_n F dX0_rubsOf_21 rfl (q := 1) rfl ?_
        refine z_iload_n F dX0_rubsOf_22 rfl (q := 3) rfl ?_
        refine zv_i (rest := []) F (k_X0_touchEachOther_49 l M1 ⟨hI, hW⟩ x0 (by omega) (by omega) y3 (by omega) (by omega)) cs_X0_76 (T := TX0) (N := 13) (ci := 0) rfl gs_49 (by decide) (by decide) rfl rfl rfl (Nat.le_of_ble_eq_true rfl) dX0_rubsOf_23 (fun v8 M9 rv8 hI p10 => ?_)
        obtain ⟨hI, hW⟩ := hI
        obtain ⟨⟨av8, bv8⟩, rfl⟩ := p10
        refine z_if_eq (tgt := 76) F dX0_rubsOf_26 (by decide +kernel) (by omega) (fun c11 => ?_) (fun c11 => ?_)
        · refine z_iincN F dX0_rubsOf_76 (q := 3) rfl (by decide) (fun v12 ev12 => ?_)
          refine z_eq (ls' := [(3, ii v12), (0, .ref (ad 49)), (1, ii x0), (2, ii y2)]) rfl rfl rfl ?_
          refine z_goto (tgt := 4) F dX0_rubsOf_79 (by decide +kernel) ?_
          refine z_loc [1, 2, 3, 0] (ls' := [(0, .ref (ad 49)), (1, ii x0), (2, ii y2), (3, ii v12)]) rfl ?_
          exact ih4 y2 v12 M1 hI hW hF (by omega) (by omega) (by omega) (by omega) (by omega)
        · refine z_iload_n F dX0_rubsOf_29 rfl (q := 1) rfl ?_
          refine z_iload_n F dX0_rubsOf_30 rfl (q := 3) rfl ?_
          refine z_min F mm_X0_174 (Nat.le_of_ble_eq_true rfl) dX0_rubsOf_31 (by omega) (by omega) (fun v13 ev13 => ?_)
          refine z_istore F dX0_rubsOf_34 (by decide) (ls' := [(4, ii v13), (0, .ref (ad 49)), (1, ii x0), (2, ii y2), (3, ii y3)]) rfl ?_
          refine z_iload_n F dX0_rubsOf_36 rfl (q := 2) rfl ?_
          refine z_iload_n F dX0_rubsOf_37 rfl (q := 4) rfl ?_
          refine z_max F mm_X0_179 (Nat.le_of_ble_eq_true rfl) dX0_rubsOf_38 (by omega) (by omega) (fun v14 ev14 => ?_)
          refine z_istore F dX0_rubsOf_41 (by decide) (ls' := [(5, ii v14), (4, ii v13), (0, .ref (ad 49)), (1, ii x0), (2, ii y2), (3, ii y3)]) rfl ?_
          refine z_iload_n F dX0_rubsOf_43 rfl (q := 4) rfl ?_
          refine z_aload_n F dX0_rubsOf_44 rfl (q := 2) rfl ?_
          refine z_iload F dX0_rubsOf_45 (q := 1) rfl ?_
          refine z_iload F dX0_rubsOf_47 (q := 0) rfl ?_
          refine z_aload_n F dX0_rubsOf_49 rfl (q := 2) rfl ?_
          refine rf_X0_25 F gs_49 rfl dX0_rubsOf_50 ?_
          refine z_iload F dX0_rubsOf_53 (q := 1) rfl ?_
          refine z_iald F hI gs_54 (by omega) (by omega) (by decide) bd_54 dX0_rubsOf_55 (fun v15 (ev15 : v15 = M1 54 _) av15 bv15 => ?_)
          refine z_aload_n F dX0_rubsOf_56 rfl (q := 2) rfl ?_
          refine rf_X0_25 F gs_49 rfl dX0_rubsOf_57 ?_
          refine z_iload F dX0_rubsOf_60 (q := 0) rfl ?_
          refine z_iald F hI gs_54 (by omega) (by omega) (by decide) bd_54 dX0_rubsOf_62 (fun v16 (ev16 : v16 = M1 54 _) av16 bv16 => ?_)
          refine zv_i (rest := [ii y2]) F (k_X0_rub_49 l M1 ⟨hI, hW⟩ v13 (by omega) (by omega) v14 (by omega) (by omega) v15 (by omega) (by omega) v16 (by omega) (by omega)) cs_X0_90 (T := TX0) (N := 13) (ci := 0) rfl gs_49 (by decide) (by decide) rfl rfl rfl (Nat.le_of_ble_eq_true rfl) dX0_rubsOf_63 (fun v17 M18 rv17 hI p19 => ?_)
          obtain ⟨hI, hW⟩ := hI
          obtain ⟨⟨av17, bv17⟩, fp19⟩ := p19
          have hF := hF.call fp19 (by decide)
          refine z_if_eq (tgt := 73) F dX0_rubsOf_66 (by decide +kernel) (by omega) (fun c20 => ?_) (fun c20 => ?_)
          · refine z_iconst F dX0_rubsOf_73 ?_
            refine z_iadd F dX0_rubsOf_74 ?_
            refine z_nm (fun v21 ev21 => ?_)
            refine z_istore_n F dX0_rubsOf_75 rfl (by decide) (ls' := [(2, ii v21), (5, ii v14), (4, ii v13), (0, .ref (ad 49)), (1, ii x0), (3, ii y3)]) rfl ?_
            refine z_iincN F dX0_rubsOf_76 (q := 5) rfl (by decide) (fun v22 ev22 => ?_)
            refine z_eq (ls' := [(3, ii v22), (2, ii v21), (5, ii v14), (4, ii v13), (0, .ref (ad 49)), (1, ii x0)]) rfl rfl rfl ?_
            refine z_goto (tgt := 4) F dX0_rubsOf_79 (by decide +kernel) ?_
            refine z_loc [4, 5, 1, 0] (ls' := [(0, .ref (ad 49)), (1, ii x0), (2, ii v21), (3, ii v22)]) rfl ?_
            exact ih4 v21 v22 M18 hI hW hF (by omega) (by omega) (by omega) (by omega) (by omega)
          · refine z_iconst F dX0_rubsOf_69 ?_
            refine z_goto (tgt := 74) F dX0_rubsOf_70 (by decide +kernel) ?_
            refine z_iadd F dX0_rubsOf_74 ?_
            refine z_wrap (fun v23 rv23 wv23 => ?_)
            refine z_istore_n F dX0_rubsOf_75 rfl (by decide) (ls' := [(2, ii v23), (5, ii v14), (4, ii v13), (0, .ref (ad 49)), (1, ii x0), (3, ii y3)]) rfl ?_
            refine z_iincN F dX0_rubsOf_76 (q := 5) rfl (by decide) (fun v24 ev24 => ?_)
            refine z_eq (ls' := [(3, ii v24), (2, ii v23), (5, ii v14), (4, ii v13), (0, .ref (ad 49)), (1, ii x0)]) rfl rfl rfl ?_
            refine z_goto (tgt := 4) F dX0_rubsOf_79 (by decide +kernel) ?_
            refine z_loc [4, 5, 1, 0] (ls' := [(0, .ref (ad 49)), (1, ii x0), (2, ii v23), (3, ii v24)]) rfl ?_
            exact ih4 v23 v24 M18 hI hW hF (by omega) (by omega) (by omega) (by omega) (by omega)
set_option maxRecDepth 4000 in
theorem k_X0_arrange_49 (l : Launch) : ∀ (nr : Nat) (M : Mem) (hJ : Iw M) (x0 : Int) (hx0a : 0 ≤ x0) (hx0b : x0 ≤ 6) (x1 : Int) (hx1a : (-2147483648) ≤ x1) (hx1b : x1 ≤ 2147483647) (x2 : Int) (hx2a : (-2147483648) ≤ x2) (hx2b : x2 ≤ 2147483647) (x3 : Int) (hx3a : (-2147483648) ≤ x3) (hx3b : x3 ≤ 2147483647) (hmu : 6 - x0 < (nr : Int)), CV l yX0_arrange cX0_arrange 10 none (6 + nr) (fun ad => [.ref (ad 49), ii x0, ii x1, ii x2, ii x3]) M (fun M' => Fr [14, 15, 16, 17, 49, 54, 55, 56] M M') := by
  intro nr
  induction nr with
  | zero => intro M hJ x0 hx0a hx0b x1 hx1a hx1b x2 hx2a hx2b x3 hx3a hx3b hmu; exfalso; omega
  | succ nr ih =>
  intro M hJ x0 hx0a hx0b x1 hx1a hx1b x2 hx2a hx2b x3 hx3a hx3b hmu
  obtain ⟨hI, hW⟩ := hJ
  have hF : Fr [14, 15, 16, 17, 49, 54, 55, 56] M M := Fr.rf
  refine en_v (by decide +kernel) (fun ad => by exact Nat.le_of_ble_eq_true rfl) (fun D cy ad A p e s m args below meth c Q F hret => ?_)
  refine z_eq (ls' := [(0, .ref (ad 49)), (1, ii x0), (2, ii x1), (3, ii x2), (4, ii x3)]) rfl rfl rfl ?_
  refine z_iload F dX0_arrange_0 (q := 4) rfl ?_
  refine z_aload_n F dX0_arrange_2 rfl (q := 0) rfl ?_
  refine gf_X0_149 F hI gs_49 rfl bd_49_12 dX0_arrange_3 (fun v1 ev1 av1 bv1 => ?_)
  refine z_icmp_lt (tgt := 10) F dX0_arrange_6 (by decide +kernel) (by omega) (by omega) (fun c2 => ?_) (fun c2 => ?_)
  · refine z_iload_n F dX0_arrange_10 rfl (q := 1) rfl ?_
    refine z_aload_n F dX0_arrange_11 rfl (q := 0) rfl ?_
    refine rf_X0_34 F gs_49 rfl dX0_arrange_12 ?_
    refine gf_X0_159 F hI gs_2 rfl bd_2_4 dX0_arrange_15 (fun v3 ev3 av3 bv3 => ?_)
    refine z_icmp_lt (tgt := 43) F dX0_arrange_18 (by decide +kernel) (by omega) (by omega) (fun c4 => ?_) (fun c4 => ?_)
    · refine z_iconst F dX0_arrange_43 ?_
      refine z_istore F dX0_arrange_44 (by decide) (ls' := [(5, ii 0), (0, .ref (ad 49)), (1, ii x0), (2, ii x1), (3, ii x2), (4, ii x3)]) rfl ?_
      refine z_loc [1, 2, 3, 4, 5, 0] (ls' := [(0, .ref (ad 49)), (1, ii x0), (2, ii x1), (3, ii x2), (4, ii x3), (5, ii 0)]) rfl ?_
      suffices key46 : ∀ (n : Nat) (y6 : Int) (M5 : Mem), Inv M5 → WFk M5 → Fr [14, 15, 16, 17, 49, 54, 55, 56] M M5 → 0 ≤ y6 → y6 ≤ 6 → 6 - y6 < (n : Int) → Z D cy ad p l e (RMh (6 + (nr + 1))) s m args below meth c A 10 0 0 Q 46 [(0, .ref (ad 49)), (1, ii x0), (2, ii x1), (3, ii x2), (4, ii x3), (5, ii y6)] [] M5 from key46 7 0 M hI hW hF (by omega) (by omega) (by omega)
      intro n46
      induction n46 with
      | zero => intro y6 M5 hI hW hF ay6 by6 hn46; exfalso; omega
      | succ n46 ih46 =>
        intro y6 M5 hI hW hF ay6 by6 hn46
        refine z_iload F dX0_arrange_46 (q := 5) rfl ?_
        refine z_aload_n F dX0_arrange_48 rfl (q := 0) rfl ?_
        refine rf_X0_34 F gs_49 rfl dX0_arrange_49 ?_
        refine gf_X0_159 F hI gs_2 rfl bd_2_4 dX0_arrange_52 (fun v7 ev7 av7 bv7 => ?_)
        refine z_icmp_ge (tgt := 178) F dX0_arrange_55 (by decide +kernel) (by omega) (by omega) (fun c8 => ?_) (fun c8 => ?_)
        · exact hret _ 178 _ ⟨hI, hW⟩ hF dX0_arrange_178
        · refine z_iload_n F dX0_arrange_58 rfl (q := 2) rfl ?_
          refine z_iload F dX0_arrange_59 (q := 5) rfl ?_
          refine zn_i (rest := []) F (k_X11_isIn l M5 ⟨hI, hW⟩ x1 (by omega) (by omega) y6 (by omega) (by omega)) cs_X0_52 (by omega) (by decide) rfl rfl rfl (Nat.le_of_ble_eq_true rfl) dX0_arrange_61 (fun v9 M10 rv9 hI p11 => ?_)
          obtain ⟨hI, hW⟩ := hI
          obtain ⟨⟨av9, bv9⟩, rfl, xp11⟩ := p11
          have hbqy6 := xp11
          refine z_if_ne (tgt := 172) F dX0_arrange_64 (by decide +kernel) (by omega) (fun c12 => ?_) (fun c12 => ?_)
          · refine z_iincN F dX0_arrange_172 (q := 5) rfl (by decide) (fun v13 ev13 => ?_)
            refine z_eq (ls' := [(5, ii v13), (0, .ref (ad 49)), (1, ii x0), (2, ii x1), (3, ii x2), (4, ii x3)]) rfl rfl rfl ?_
            refine z_goto (tgt := 46) F dX0_arrange_175 (by decide +kernel) ?_
            refine z_loc [1, 2, 3, 4, 5, 0] (ls' := [(0, .ref (ad 49)), (1, ii x0), (2, ii x1), (3, ii x2), (4, ii x3), (5, ii v13)]) rfl ?_
            exact ih46 v13 M5 hI hW hF (by omega) (by omega) (by omega)
          · refine z_aload_n F dX0_arrange_67 rfl (q := 0) rfl ?_
            refine rf_X0_34 F gs_49 rfl dX0_arrange_68 ?_
            refine rf_X0_162 F gs_2 rfl dX0_arrange_71 ?_
            refine z_iload F dX0_arrange_74 (q := 5) rfl ?_
            refine z_iald F hI gs_11 (by omega) (by omega) (by decide) bd_11 dX0_arrange_76 (fun v14 (ev14 : v14 = M5 11 _) av14 bv14 => ?_)
            refine z_istore F dX0_arrange_77 (by decide) (ls' := [(6, ii v14), (0, .ref (ad 49)), (1, ii x0), (2, ii x1), (3, ii x2), (4, ii x3), (5, ii y6)]) rfl ?_
            refine z_aload_n F dX0_arrange_79 rfl (q := 1) rfl ?_
            refine rf_X0_25 F gs_49 rfl dX0_arrange_80 ?_
            refine z_iload F dX0_arrange_83 (q := 0) rfl ?_
            refine z_iald F hI gs_54 (by omega) (by omega) (by decide) bd_54 dX0_arrange_85 (fun v15 (ev15 : v15 = M5 54 _) av15 bv15 => ?_)
            refine z_istore F dX0_arrange_86 (by decide) (ls' := [(7, ii v15), (6, ii v14), (0, .ref (ad 49)), (1, ii x0), (2, ii x1), (3, ii x2), (4, ii x3), (5, ii y6)]) rfl ?_
            refine z_iload_n F dX0_arrange_88 rfl (q := 5) rfl ?_
            refine z_aload_n F dX0_arrange_89 rfl (q := 2) rfl ?_
            refine z_iload F dX0_arrange_90 (q := 1) rfl ?_
            refine zv_i (rest := [ii x2]) F (k_X0_rubsOf_49 l M5 ⟨hI, hW⟩ v14 (by omega) (by omega)) cs_X0_165 (T := TX0) (N := 13) (ci := 0) rfl gs_49 (by omega) (by decide) rfl rfl rfl (Nat.le_of_ble_eq_true rfl) dX0_arrange_92 (fun v16 M17 rv16 hI p18 => ?_)
            obtain ⟨hI, hW⟩ := hI
            obtain ⟨⟨av16, bv16⟩, fp18⟩ := p18
            have hF := hF.call fp18 (by decide)
            refine z_isub F dX0_arrange_95 ?_
            refine z_wrap (fun v19 rv19 wv19 => ?_)
            refine z_istore F dX0_arrange_96 (by decide) (ls' := [(8, ii v19), (7, ii v15), (6, ii v14), (0, .ref (ad 49)), (1, ii x0), (2, ii x1), (3, ii x2), (4, ii x3), (5, ii y6)]) rfl ?_
            refine z_aload_n F dX0_arrange_98 rfl (q := 3) rfl ?_
            refine rf_X0_25 F gs_49 rfl dX0_arrange_99 ?_
            refine z_iload F dX0_arrange_102 (q := 2) rfl ?_
            refine z_iload F dX0_arrange_104 (q := 1) rfl ?_
            refine z_aload_n F dX0_arrange_106 rfl (q := 3) rfl ?_
            refine rf_X0_34 F gs_49 rfl dX0_arrange_107 ?_
            refine rf_X0_168 F gs_2 rfl dX0_arrange_110 ?_
            refine z_iload F dX0_arrange_113 (q := 8) rfl ?_
            refine z_iald F hI gs_12 (by omega) (by omega) (by decide) bd_12 dX0_arrange_115 (fun v20 (ev20 : v20 = M17 12 _) av20 bv20 => ?_)
            refine z_iadd F dX0_arrange_116 ?_
            refine z_wrap (fun v21 rv21 wv21 => ?_)
            refine z_iconst F dX0_arrange_117 ?_
            refine z_bipush F dX0_arrange_118 (by decide +kernel) ?_
            refine zn_i (rest := [ii v14, .ref (ad 54)]) F (k_X11_keptWithin l M17 ⟨hI, hW⟩ v21 (by omega) (by omega) 0 (by omega) (by omega) 99 (by omega) (by omega)) cs_X0_171 (by omega) (by decide) rfl rfl rfl (Nat.le_of_ble_eq_true rfl) dX0_arrange_120 (fun v22 M23 rv22 hI p24 => ?_)
            obtain ⟨hI, hW⟩ := hI
            obtain ⟨⟨av22, bv22⟩, rfl, xp24⟩ := p24
            have hkv22 : 0 ≤ v22 ∧ v22 ≤ 99 := by omega
            refine z_iast F hI gs_54 (by omega) (by omega) (by decide) bd_54 dX0_arrange_123 (by omega) (by omega) (fun M26 hI sf25 f25 => ?_)
            have hF := hF.wr f25 (by decide) (by decide)
            have hW : WFk M26 := hW.site f25 (by decide)
            refine z_iload F dX0_arrange_124 (q := 0) rfl ?_
            refine z_aload_n F dX0_arrange_126 rfl (q := 3) rfl ?_
            refine z_iload F dX0_arrange_127 (q := 2) rfl ?_
            refine zv_i (rest := [ii v19]) F (k_X0_rubsOf_49 l M26 ⟨hI, hW⟩ v14 (by omega) (by omega)) cs_X0_165 (T := TX0) (N := 13) (ci := 0) rfl gs_49 (by omega) (by decide) rfl rfl rfl (Nat.le_of_ble_eq_true rfl) dX0_arrange_129 (fun v27 M28 rv27 hI p29 => ?_)
            obtain ⟨hI, hW⟩ := hI
            obtain ⟨⟨av27, bv27⟩, fp29⟩ := p29
            have hF := hF.call fp29 (by decide)
            refine z_iadd F dX0_arrange_132 ?_
            refine z_wrap (fun v30 rv30 wv30 => ?_)
            refine z_istore F dX0_arrange_133 (by decide) (ls' := [(9, ii v30), (8, ii v19), (7, ii v15), (6, ii v14), (0, .ref (ad 49)), (1, ii x0), (2, ii x1), (3, ii x2), (4, ii x3), (5, ii y6)]) rfl ?_
            refine z_aload_n F dX0_arrange_135 rfl (q := 4) rfl ?_
            refine rf_X0_28 F gs_49 rfl dX0_arrange_136 ?_
            refine z_iload_n F dX0_arrange_139 rfl (q := 5) rfl ?_
            refine z_iload F dX0_arrange_140 (q := 9) rfl ?_
            refine z_iast F hI gs_55 (by omega) (by omega) (by decide) bd_55 dX0_arrange_142 (by omega) (by omega) (fun M32 hI sf31 f31 => ?_)
            have hF := hF.wr f31 (by decide) (by decide)
            have hW : WFk M32 := hW.site f31 (by decide)
            refine z_aload_n F dX0_arrange_143 rfl (q := 4) rfl ?_
            refine z_iload_n F dX0_arrange_144 rfl (q := 5) rfl ?_
            refine z_iconst F dX0_arrange_145 ?_
            refine z_iadd F dX0_arrange_146 ?_
            refine z_iload_n F dX0_arrange_147 rfl (q := 6) rfl ?_
            refine z_iconst F dX0_arrange_148 ?_
            refine z_iload F dX0_arrange_149 (q := 9) rfl ?_
            refine z_shl1 (k := 5) F dX0_arrange_151 (by decide) (by omega) (by omega) (fun v33 ev33 av33 bv33 => ?_)
            refine z_ior0 F dX0_arrange_152 (fun v34 ev34 rv34 => ?_)
            refine z_iload F dX0_arrange_153 (q := 0) rfl ?_
            refine z_iload F dX0_arrange_155 (q := 8) rfl ?_
            refine z_iload F dX0_arrange_157 (q := 0) rfl ?_
            refine z_iadd F dX0_arrange_159 ?_
            refine z_wrap (fun v35 rv35 wv35 => ?_)
            refine zv_v (rest := []) F (ih M32 ⟨hI, hW⟩ (x0 + 1) (by omega) (by omega) v34 (by omega) (by omega) v30 (by omega) (by omega) v35 (by omega) (by omega) (by omega)) cs_X0_155 (T := TX0) (N := 13) (ci := 0) rfl gs_49 (by omega) (by decide) rfl rfl rfl (Nat.le_of_ble_eq_true rfl) dX0_arrange_160 (fun M36 hI p37 => ?_)
            obtain ⟨hI, hW⟩ := hI
            have fp37 := p37
            have hF := hF.call fp37 (by decide)
            refine z_aload_n F dX0_arrange_163 rfl (q := 4) rfl ?_
            refine rf_X0_25 F gs_49 rfl dX0_arrange_164 ?_
            refine z_iload F dX0_arrange_167 (q := 3) rfl ?_
            refine z_iload F dX0_arrange_169 (q := 2) rfl ?_
            refine z_iast F hI gs_54 (by omega) (by omega) (by decide) bd_54 dX0_arrange_171 (by omega) (by omega) (fun M39 hI sf38 f38 => ?_)
            have hF := hF.wr f38 (by decide) (by decide)
            have hW : WFk M39 := hW.site f38 (by decide)
            refine z_iincN F dX0_arrange_172 (q := 9) rfl (by decide) (fun v40 ev40 => ?_)
            refine z_eq (ls' := [(5, ii v40), (9, ii v30), (8, ii v19), (7, ii v15), (6, ii v14), (0, .ref (ad 49)), (1, ii x0), (2, ii x1), (3, ii x2), (4, ii x3)]) rfl rfl rfl ?_
            refine z_goto (tgt := 46) F dX0_arrange_175 (by decide +kernel) ?_
            refine z_loc [5, 6, 7, 8, 9, 0] (ls' := [(0, .ref (ad 49)), (1, ii x0), (2, ii x1), (3, ii x2), (4, ii x3), (5, ii v40)]) rfl ?_
            exact ih46 v40 M39 hI hW hF (by omega) (by omega) (by omega)
    · refine z_aload_n F dX0_arrange_21 rfl (q := 0) rfl ?_
      refine z_iload F dX0_arrange_22 (q := 4) rfl ?_
      refine pf_X0_149 F hI gs_49 rfl bd_49_12 rfl rfl dX0_arrange_24 (by omega) (by omega) (fun M42 hI sf41 f41 => ?_)
      have hF := hF.wr f41 (by decide) (by decide)
      have hW : WFk M42 := hW.site f41 (by decide)
      refine z_aload_n F dX0_arrange_27 rfl (q := 0) rfl ?_
      refine rf_X0_28 F gs_49 rfl dX0_arrange_28 ?_
      refine z_iconst F dX0_arrange_31 ?_
      refine z_aload_n F dX0_arrange_32 rfl (q := 0) rfl ?_
      refine rf_X0_31 F gs_49 rfl dX0_arrange_33 ?_
      refine z_iconst F dX0_arrange_36 ?_
      refine z_bipush F dX0_arrange_37 (by decide +kernel) ?_
      refine z_copy F (by decide) ac_X0_142 hI gs_55 gs_56 (by omega) (by omega) (by omega) (by omega) (by omega) (by decide) (by decide) (fun i hi => rfl) (Nat.le_of_ble_eq_true rfl) dX0_arrange_39 (fun M44 hI g43 => ?_)
      have hF := hF.call g43 (by decide)
      have hW : WFk M44 := hW.fr g43 (by decide) (by decide)
      exact hret _ 42 _ ⟨hI, hW⟩ hF dX0_arrange_42
  · exact hret _ 9 _ ⟨hI, hW⟩ hF dX0_arrange_9
