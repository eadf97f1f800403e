theorem dX2_append_0 : decode cX2_append 0 = .ok (.aload_n 0, 1) := by decide +kernel
theorem dX2_append_1 : decode cX2_append 1 = .ok (.getfield 25, 3) := by decide +kernel
theorem dX2_append_12 : decode cX2_append 12 = .ok (.aload_n 0, 1) := by decide +kernel
theorem dX2_append_13 : decode cX2_append 13 = .ok (.getfield 9, 3) := by decide +kernel
theorem dX2_append_16 : decode cX2_append 16 = .ok (.aload_n 0, 1) := by decide +kernel
theorem dX2_append_17 : decode cX2_append 17 = .ok (.getfield 25, 3) := by decide +kernel
theorem dX2_append_20 : decode cX2_append 20 = .ok (.iload_n 1, 1) := by decide +kernel
theorem dX2_append_21 : decode cX2_append 21 = .ok (.iastore, 1) := by decide +kernel
theorem dX2_append_22 : decode cX2_append 22 = .ok (.aload_n 0, 1) := by decide +kernel
theorem dX2_append_23 : decode cX2_append 23 = .ok (.dup, 1) := by decide +kernel
theorem dX2_append_24 : decode cX2_append 24 = .ok (.getfield 25, 3) := by decide +kernel
theorem dX2_append_27 : decode cX2_append 27 = .ok (.iconst 1, 1) := by decide +kernel
theorem dX2_append_28 : decode cX2_append 28 = .ok (.iadd, 1) := by decide +kernel
theorem dX2_append_29 : decode cX2_append 29 = .ok (.putfield 25, 3) := by decide +kernel
theorem dX2_append_32 : decode cX2_append 32 = .ok (.return_, 1) := by decide +kernel
theorem dX2_append_4 : decode cX2_append 4 = .ok (.aload_n 0, 1) := by decide +kernel
theorem dX2_append_5 : decode cX2_append 5 = .ok (.getfield 9, 3) := by decide +kernel
theorem dX2_append_8 : decode cX2_append 8 = .ok (.arraylength, 1) := by decide +kernel
theorem dX2_append_9 : decode cX2_append 9 = .ok (.if_icmp .ge 23, 3) := by decide +kernel
theorem dX6_advance_0 : decode cX6_advance 0 = .ok (.aload_n 0, 1) := by decide +kernel
theorem dX6_advance_1 : decode cX6_advance 1 = .ok (.getfield 33, 3) := by decide +kernel
theorem dX6_advance_100 : decode cX6_advance 100 = .ok (.iconst 3, 1) := by decide +kernel
theorem dX6_advance_101 : decode cX6_advance 101 = .ok (.if_icmp .eq 11, 3) := by decide +kernel
theorem dX6_advance_104 : decode cX6_advance 104 = .ok (.aload_n 0, 1) := by decide +kernel
theorem dX6_advance_105 : decode cX6_advance 105 = .ok (.getfield 48, 3) := by decide +kernel
theorem dX6_advance_108 : decode cX6_advance 108 = .ok (.iconst 4, 1) := by decide +kernel
theorem dX6_advance_109 : decode cX6_advance 109 = .ok (.if_icmp .ne 29, 3) := by decide +kernel
theorem dX6_advance_11 : decode cX6_advance 11 = .ok (.aload_n 0, 1) := by decide +kernel
theorem dX6_advance_112 : decode cX6_advance 112 = .ok (.aload_n 0, 1) := by decide +kernel
theorem dX6_advance_113 : decode cX6_advance 113 = .ok (.aload_n 0, 1) := by decide +kernel
theorem dX6_advance_114 : decode cX6_advance 114 = .ok (.getfield 22, 3) := by decide +kernel
theorem dX6_advance_117 : decode cX6_advance 117 = .ok (.aload_n 0, 1) := by decide +kernel
theorem dX6_advance_118 : decode cX6_advance 118 = .ok (.getfield 33, 3) := by decide +kernel
theorem dX6_advance_12 : decode cX6_advance 12 = .ok (.getfield 22, 3) := by decide +kernel
theorem dX6_advance_121 : decode cX6_advance 121 = .ok (.baload, 1) := by decide +kernel
theorem dX6_advance_122 : decode cX6_advance 122 = .ok (.putfield 60, 3) := by decide +kernel
theorem dX6_advance_125 : decode cX6_advance 125 = .ok (.aload_n 0, 1) := by decide +kernel
theorem dX6_advance_126 : decode cX6_advance 126 = .ok (.dup, 1) := by decide +kernel
theorem dX6_advance_127 : decode cX6_advance 127 = .ok (.getfield 33, 3) := by decide +kernel
theorem dX6_advance_130 : decode cX6_advance 130 = .ok (.iconst 1, 1) := by decide +kernel
theorem dX6_advance_131 : decode cX6_advance 131 = .ok (.iadd, 1) := by decide +kernel
theorem dX6_advance_132 : decode cX6_advance 132 = .ok (.putfield 33, 3) := by decide +kernel
theorem dX6_advance_135 : decode cX6_advance 135 = .ok (.goto 106, 3) := by decide +kernel
theorem dX6_advance_138 : decode cX6_advance 138 = .ok (.aload_n 0, 1) := by decide +kernel
theorem dX6_advance_139 : decode cX6_advance 139 = .ok (.getfield 48, 3) := by decide +kernel
theorem dX6_advance_142 : decode cX6_advance 142 = .ok (.ifCond .eq 99, 3) := by decide +kernel
theorem dX6_advance_145 : decode cX6_advance 145 = .ok (.aload_n 0, 1) := by decide +kernel
theorem dX6_advance_146 : decode cX6_advance 146 = .ok (.getfield 48, 3) := by decide +kernel
theorem dX6_advance_149 : decode cX6_advance 149 = .ok (.istore_n 1, 1) := by decide +kernel
theorem dX6_advance_15 : decode cX6_advance 15 = .ok (.aload_n 0, 1) := by decide +kernel
theorem dX6_advance_150 : decode cX6_advance 150 = .ok (.aload_n 0, 1) := by decide +kernel
theorem dX6_advance_151 : decode cX6_advance 151 = .ok (.getfield 33, 3) := by decide +kernel
theorem dX6_advance_154 : decode cX6_advance 154 = .ok (.aload_n 0, 1) := by decide +kernel
theorem dX6_advance_155 : decode cX6_advance 155 = .ok (.getfield 30, 3) := by decide +kernel
theorem dX6_advance_158 : decode cX6_advance 158 = .ok (.if_icmp .ge 56, 3) := by decide +kernel
theorem dX6_advance_16 : decode cX6_advance 16 = .ok (.getfield 33, 3) := by decide +kernel
theorem dX6_advance_161 : decode cX6_advance 161 = .ok (.aload_n 0, 1) := by decide +kernel
theorem dX6_advance_162 : decode cX6_advance 162 = .ok (.getfield 22, 3) := by decide +kernel
theorem dX6_advance_165 : decode cX6_advance 165 = .ok (.aload_n 0, 1) := by decide +kernel
theorem dX6_advance_166 : decode cX6_advance 166 = .ok (.getfield 33, 3) := by decide +kernel
theorem dX6_advance_169 : decode cX6_advance 169 = .ok (.baload, 1) := by decide +kernel
theorem dX6_advance_170 : decode cX6_advance 170 = .ok (.invokestatic 63, 3) := by decide +kernel
theorem dX6_advance_173 : decode cX6_advance 173 = .ok (.iload_n 1, 1) := by decide +kernel
theorem dX6_advance_174 : decode cX6_advance 174 = .ok (.if_icmp .ne 40, 3) := by decide +kernel
theorem dX6_advance_177 : decode cX6_advance 177 = .ok (.aload_n 0, 1) := by decide +kernel
theorem dX6_advance_178 : decode cX6_advance 178 = .ok (.bipush 10, 2) := by decide +kernel
theorem dX6_advance_180 : decode cX6_advance 180 = .ok (.aload_n 0, 1) := by decide +kernel
theorem dX6_advance_181 : decode cX6_advance 181 = .ok (.getfield 60, 3) := by decide +kernel
theorem dX6_advance_184 : decode cX6_advance 184 = .ok (.imul, 1) := by decide +kernel
theorem dX6_advance_185 : decode cX6_advance 185 = .ok (.aload_n 0, 1) := by decide +kernel
theorem dX6_advance_186 : decode cX6_advance 186 = .ok (.getfield 22, 3) := by decide +kernel
theorem dX6_advance_189 : decode cX6_advance 189 = .ok (.aload_n 0, 1) := by decide +kernel
theorem dX6_advance_19 : decode cX6_advance 19 = .ok (.baload, 1) := by decide +kernel
theorem dX6_advance_190 : decode cX6_advance 190 = .ok (.getfield 33, 3) := by decide +kernel
theorem dX6_advance_193 : decode cX6_advance 193 = .ok (.baload, 1) := by decide +kernel
theorem dX6_advance_194 : decode cX6_advance 194 = .ok (.iadd, 1) := by decide +kernel
theorem dX6_advance_195 : decode cX6_advance 195 = .ok (.bipush 48, 2) := by decide +kernel
theorem dX6_advance_197 : decode cX6_advance 197 = .ok (.isub, 1) := by decide +kernel
theorem dX6_advance_198 : decode cX6_advance 198 = .ok (.putfield 60, 3) := by decide +kernel
theorem dX6_advance_20 : decode cX6_advance 20 = .ok (.bipush 10, 2) := by decide +kernel
theorem dX6_advance_201 : decode cX6_advance 201 = .ok (.aload_n 0, 1) := by decide +kernel
theorem dX6_advance_202 : decode cX6_advance 202 = .ok (.dup, 1) := by decide +kernel
theorem dX6_advance_203 : decode cX6_advance 203 = .ok (.getfield 33, 3) := by decide +kernel
theorem dX6_advance_206 : decode cX6_advance 206 = .ok (.iconst 1, 1) := by decide +kernel
theorem dX6_advance_207 : decode cX6_advance 207 = .ok (.iadd, 1) := by decide +kernel
theorem dX6_advance_208 : decode cX6_advance 208 = .ok (.putfield 33, 3) := by decide +kernel
theorem dX6_advance_211 : decode cX6_advance 211 = .ok (.goto (-61), 3) := by decide +kernel
theorem dX6_advance_214 : decode cX6_advance 214 = .ok (.aload_n 0, 1) := by decide +kernel
theorem dX6_advance_215 : decode cX6_advance 215 = .ok (.iload_n 1, 1) := by decide +kernel
theorem dX6_advance_216 : decode cX6_advance 216 = .ok (.iconst 2, 1) := by decide +kernel
theorem dX6_advance_217 : decode cX6_advance 217 = .ok (.if_icmp .ne 20, 3) := by decide +kernel
theorem dX6_advance_22 : decode cX6_advance 22 = .ok (.if_icmp .eq 17, 3) := by decide +kernel
theorem dX6_advance_220 : decode cX6_advance 220 = .ok (.aload_n 0, 1) := by decide +kernel
theorem dX6_advance_221 : decode cX6_advance 221 = .ok (.getfield 33, 3) := by decide +kernel
theorem dX6_advance_224 : decode cX6_advance 224 = .ok (.aload_n 0, 1) := by decide +kernel
theorem dX6_advance_225 : decode cX6_advance 225 = .ok (.getfield 57, 3) := by decide +kernel
theorem dX6_advance_228 : decode cX6_advance 228 = .ok (.isub, 1) := by decide +kernel
theorem dX6_advance_229 : decode cX6_advance 229 = .ok (.iconst 3, 1) := by decide +kernel
theorem dX6_advance_230 : decode cX6_advance 230 = .ok (.if_icmp .le 7, 3) := by decide +kernel
theorem dX6_advance_233 : decode cX6_advance 233 = .ok (.iconst 4, 1) := by decide +kernel
theorem dX6_advance_234 : decode cX6_advance 234 = .ok (.goto 4, 3) := by decide +kernel
theorem dX6_advance_237 : decode cX6_advance 237 = .ok (.iload_n 1, 1) := by decide +kernel
theorem dX6_advance_238 : decode cX6_advance 238 = .ok (.putfield 48, 3) := by decide +kernel
theorem dX6_advance_241 : decode cX6_advance 241 = .ok (.return_, 1) := by decide +kernel
theorem dX6_advance_25 : decode cX6_advance 25 = .ok (.aload_n 0, 1) := by decide +kernel
theorem dX6_advance_26 : decode cX6_advance 26 = .ok (.getfield 22, 3) := by decide +kernel
theorem dX6_advance_29 : decode cX6_advance 29 = .ok (.aload_n 0, 1) := by decide +kernel
theorem dX6_advance_30 : decode cX6_advance 30 = .ok (.getfield 33, 3) := by decide +kernel
theorem dX6_advance_33 : decode cX6_advance 33 = .ok (.baload, 1) := by decide +kernel
theorem dX6_advance_34 : decode cX6_advance 34 = .ok (.bipush 32, 2) := by decide +kernel
theorem dX6_advance_36 : decode cX6_advance 36 = .ok (.if_icmp .ne 16, 3) := by decide +kernel
theorem dX6_advance_39 : decode cX6_advance 39 = .ok (.aload_n 0, 1) := by decide +kernel
theorem dX6_advance_4 : decode cX6_advance 4 = .ok (.aload_n 0, 1) := by decide +kernel
theorem dX6_advance_40 : decode cX6_advance 40 = .ok (.dup, 1) := by decide +kernel
theorem dX6_advance_41 : decode cX6_advance 41 = .ok (.getfield 33, 3) := by decide +kernel
theorem dX6_advance_44 : decode cX6_advance 44 = .ok (.iconst 1, 1) := by decide +kernel
theorem dX6_advance_45 : decode cX6_advance 45 = .ok (.iadd, 1) := by decide +kernel
theorem dX6_advance_46 : decode cX6_advance 46 = .ok (.putfield 33, 3) := by decide +kernel
theorem dX6_advance_49 : decode cX6_advance 49 = .ok (.goto (-49), 3) := by decide +kernel
theorem dX6_advance_5 : decode cX6_advance 5 = .ok (.getfield 30, 3) := by decide +kernel
theorem dX6_advance_52 : decode cX6_advance 52 = .ok (.aload_n 0, 1) := by decide +kernel
theorem dX6_advance_53 : decode cX6_advance 53 = .ok (.aload_n 0, 1) := by decide +kernel
theorem dX6_advance_54 : decode cX6_advance 54 = .ok (.getfield 33, 3) := by decide +kernel
theorem dX6_advance_57 : decode cX6_advance 57 = .ok (.putfield 57, 3) := by decide +kernel
theorem dX6_advance_60 : decode cX6_advance 60 = .ok (.aload_n 0, 1) := by decide +kernel
theorem dX6_advance_61 : decode cX6_advance 61 = .ok (.iconst 0, 1) := by decide +kernel
theorem dX6_advance_62 : decode cX6_advance 62 = .ok (.putfield 60, 3) := by decide +kernel
theorem dX6_advance_65 : decode cX6_advance 65 = .ok (.aload_n 0, 1) := by decide +kernel
theorem dX6_advance_66 : decode cX6_advance 66 = .ok (.aload_n 0, 1) := by decide +kernel
theorem dX6_advance_67 : decode cX6_advance 67 = .ok (.getfield 33, 3) := by decide +kernel
theorem dX6_advance_70 : decode cX6_advance 70 = .ok (.aload_n 0, 1) := by decide +kernel
theorem dX6_advance_71 : decode cX6_advance 71 = .ok (.getfield 30, 3) := by decide +kernel
theorem dX6_advance_74 : decode cX6_advance 74 = .ok (.if_icmp .ge 18, 3) := by decide +kernel
theorem dX6_advance_77 : decode cX6_advance 77 = .ok (.aload_n 0, 1) := by decide +kernel
theorem dX6_advance_78 : decode cX6_advance 78 = .ok (.getfield 22, 3) := by decide +kernel
theorem dX6_advance_8 : decode cX6_advance 8 = .ok (.if_icmp .ge 44, 3) := by decide +kernel
theorem dX6_advance_81 : decode cX6_advance 81 = .ok (.aload_n 0, 1) := by decide +kernel
theorem dX6_advance_82 : decode cX6_advance 82 = .ok (.getfield 33, 3) := by decide +kernel
theorem dX6_advance_85 : decode cX6_advance 85 = .ok (.baload, 1) := by decide +kernel
theorem dX6_advance_86 : decode cX6_advance 86 = .ok (.invokestatic 63, 3) := by decide +kernel
theorem dX6_advance_89 : decode cX6_advance 89 = .ok (.goto 4, 3) := by decide +kernel
theorem dX6_advance_92 : decode cX6_advance 92 = .ok (.iconst 0, 1) := by decide +kernel
theorem dX6_advance_93 : decode cX6_advance 93 = .ok (.putfield 48, 3) := by decide +kernel
theorem dX6_advance_96 : decode cX6_advance 96 = .ok (.aload_n 0, 1) := by decide +kernel
theorem dX6_advance_97 : decode cX6_advance 97 = .ok (.getfield 48, 3) := by decide +kernel
theorem dX6_comparisonHere_0 : decode cX6_comparisonHere 0 = .ok (.aload_n 0, 1) := by decide +kernel
theorem dX6_comparisonHere_1 : decode cX6_comparisonHere 1 = .ok (.bipush 61, 2) := by decide +kernel
theorem dX6_comparisonHere_11 : decode cX6_comparisonHere 11 = .ok (.ireturn, 1) := by decide +kernel
theorem dX6_comparisonHere_12 : decode cX6_comparisonHere 12 = .ok (.aload_n 0, 1) := by decide +kernel
theorem dX6_comparisonHere_13 : decode cX6_comparisonHere 13 = .ok (.bipush 60, 2) := by decide +kernel
theorem dX6_comparisonHere_15 : decode cX6_comparisonHere 15 = .ok (.invokevirtual 93, 3) := by decide +kernel
theorem dX6_comparisonHere_18 : decode cX6_comparisonHere 18 = .ok (.ifCond .eq 6, 3) := by decide +kernel
theorem dX6_comparisonHere_21 : decode cX6_comparisonHere 21 = .ok (.bipush (-14), 2) := by decide +kernel
theorem dX6_comparisonHere_23 : decode cX6_comparisonHere 23 = .ok (.ireturn, 1) := by decide +kernel
theorem dX6_comparisonHere_24 : decode cX6_comparisonHere 24 = .ok (.aload_n 0, 1) := by decide +kernel
theorem dX6_comparisonHere_25 : decode cX6_comparisonHere 25 = .ok (.bipush 62, 2) := by decide +kernel
theorem dX6_comparisonHere_27 : decode cX6_comparisonHere 27 = .ok (.invokevirtual 93, 3) := by decide +kernel
theorem dX6_comparisonHere_3 : decode cX6_comparisonHere 3 = .ok (.invokevirtual 93, 3) := by decide +kernel
theorem dX6_comparisonHere_30 : decode cX6_comparisonHere 30 = .ok (.ifCond .eq 8, 3) := by decide +kernel
theorem dX6_comparisonHere_33 : decode cX6_comparisonHere 33 = .ok (.bipush (-15), 2) := by decide +kernel
theorem dX6_comparisonHere_35 : decode cX6_comparisonHere 35 = .ok (.goto 4, 3) := by decide +kernel
theorem dX6_comparisonHere_38 : decode cX6_comparisonHere 38 = .ok (.iconst 0, 1) := by decide +kernel
theorem dX6_comparisonHere_39 : decode cX6_comparisonHere 39 = .ok (.ireturn, 1) := by decide +kernel
theorem dX6_comparisonHere_6 : decode cX6_comparisonHere 6 = .ok (.ifCond .eq 6, 3) := by decide +kernel
theorem dX6_comparisonHere_9 : decode cX6_comparisonHere 9 = .ok (.bipush (-13), 2) := by decide +kernel
theorem dX6_fail_0 : decode cX6_fail 0 = .ok (.aload_n 0, 1) := by decide +kernel
theorem dX6_fail_1 : decode cX6_fail 1 = .ok (.getfield 36, 3) := by decide +kernel
theorem dX6_fail_12 : decode cX6_fail 12 = .ok (.aload_n 0, 1) := by decide +kernel
theorem dX6_fail_13 : decode cX6_fail 13 = .ok (.aload_n 0, 1) := by decide +kernel
theorem dX6_fail_14 : decode cX6_fail 14 = .ok (.getfield 57, 3) := by decide +kernel
theorem dX6_fail_17 : decode cX6_fail 17 = .ok (.putfield 18, 3) := by decide +kernel
theorem dX6_fail_20 : decode cX6_fail 20 = .ok (.return_, 1) := by decide +kernel
theorem dX6_fail_4 : decode cX6_fail 4 = .ok (.ifCond .ne 16, 3) := by decide +kernel
theorem dX6_fail_7 : decode cX6_fail 7 = .ok (.aload_n 0, 1) := by decide +kernel
theorem dX6_fail_8 : decode cX6_fail 8 = .ok (.iload_n 1, 1) := by decide +kernel
theorem dX6_fail_9 : decode cX6_fail 9 = .ok (.putfield 36, 3) := by decide +kernel
theorem dX6_goDeeper_0 : decode cX6_goDeeper 0 = .ok (.iload_n 1, 1) := by decide +kernel
theorem dX6_goDeeper_1 : decode cX6_goDeeper 1 = .ok (.bipush 6, 2) := by decide +kernel
theorem dX6_goDeeper_11 : decode cX6_goDeeper 11 = .ok (.iconst 0, 1) := by decide +kernel
theorem dX6_goDeeper_12 : decode cX6_goDeeper 12 = .ok (.ireturn, 1) := by decide +kernel
theorem dX6_goDeeper_13 : decode cX6_goDeeper 13 = .ok (.aload_n 0, 1) := by decide +kernel
theorem dX6_goDeeper_14 : decode cX6_goDeeper 14 = .ok (.invokevirtual 42, 3) := by decide +kernel
theorem dX6_goDeeper_17 : decode cX6_goDeeper 17 = .ok (.iconst 1, 1) := by decide +kernel
theorem dX6_goDeeper_18 : decode cX6_goDeeper 18 = .ok (.ireturn, 1) := by decide +kernel
theorem dX6_goDeeper_3 : decode cX6_goDeeper 3 = .ok (.if_icmp .lt 10, 3) := by decide +kernel
theorem dX6_goDeeper_6 : decode cX6_goDeeper 6 = .ok (.aload_n 0, 1) := by decide +kernel
theorem dX6_goDeeper_7 : decode cX6_goDeeper 7 = .ok (.iconst 4, 1) := by decide +kernel
theorem dX6_goDeeper_8 : decode cX6_goDeeper 8 = .ok (.invokevirtual 82, 3) := by decide +kernel
theorem dX6_isSign_0 : decode cX6_isSign 0 = .ok (.aload_n 0, 1) := by decide +kernel
theorem dX6_isSign_1 : decode cX6_isSign 1 = .ok (.getfield 36, 3) := by decide +kernel
theorem dX6_isSign_11 : decode cX6_isSign 11 = .ok (.iconst 3, 1) := by decide +kernel
theorem dX6_isSign_12 : decode cX6_isSign 12 = .ok (.if_icmp .ne 15, 3) := by decide +kernel
theorem dX6_isSign_15 : decode cX6_isSign 15 = .ok (.aload_n 0, 1) := by decide +kernel
theorem dX6_isSign_16 : decode cX6_isSign 16 = .ok (.getfield 60, 3) := by decide +kernel
theorem dX6_isSign_19 : decode cX6_isSign 19 = .ok (.iload_n 1, 1) := by decide +kernel
theorem dX6_isSign_20 : decode cX6_isSign 20 = .ok (.if_icmp .ne 7, 3) := by decide +kernel
theorem dX6_isSign_23 : decode cX6_isSign 23 = .ok (.iconst 1, 1) := by decide +kernel
theorem dX6_isSign_24 : decode cX6_isSign 24 = .ok (.goto 4, 3) := by decide +kernel
theorem dX6_isSign_27 : decode cX6_isSign 27 = .ok (.iconst 0, 1) := by decide +kernel
theorem dX6_isSign_28 : decode cX6_isSign 28 = .ok (.ireturn, 1) := by decide +kernel
theorem dX6_isSign_4 : decode cX6_isSign 4 = .ok (.ifCond .ne 23, 3) := by decide +kernel
theorem dX6_isSign_7 : decode cX6_isSign 7 = .ok (.aload_n 0, 1) := by decide +kernel
theorem dX6_isSign_8 : decode cX6_isSign 8 = .ok (.getfield 48, 3) := by decide +kernel
theorem dX6_isWord_0 : decode cX6_isWord 0 = .ok (.aload_n 0, 1) := by decide +kernel
theorem dX6_isWord_1 : decode cX6_isWord 1 = .ok (.getfield 36, 3) := by decide +kernel
theorem dX6_isWord_11 : decode cX6_isWord 11 = .ok (.iconst 1, 1) := by decide +kernel
theorem dX6_isWord_12 : decode cX6_isWord 12 = .ok (.if_icmp .ne 19, 3) := by decide +kernel
theorem dX6_isWord_15 : decode cX6_isWord 15 = .ok (.aload_n 0, 1) := by decide +kernel
theorem dX6_isWord_16 : decode cX6_isWord 16 = .ok (.getfield 33, 3) := by decide +kernel
theorem dX6_isWord_19 : decode cX6_isWord 19 = .ok (.aload_n 0, 1) := by decide +kernel
theorem dX6_isWord_20 : decode cX6_isWord 20 = .ok (.getfield 57, 3) := by decide +kernel
theorem dX6_isWord_23 : decode cX6_isWord 23 = .ok (.isub, 1) := by decide +kernel
theorem dX6_isWord_24 : decode cX6_isWord 24 = .ok (.aload_n 1, 1) := by decide +kernel
theorem dX6_isWord_25 : decode cX6_isWord 25 = .ok (.invokevirtual 75, 3) := by decide +kernel
theorem dX6_isWord_28 : decode cX6_isWord 28 = .ok (.if_icmp .eq 5, 3) := by decide +kernel
theorem dX6_isWord_31 : decode cX6_isWord 31 = .ok (.iconst 0, 1) := by decide +kernel
theorem dX6_isWord_32 : decode cX6_isWord 32 = .ok (.ireturn, 1) := by decide +kernel
theorem dX6_isWord_33 : decode cX6_isWord 33 = .ok (.iconst 0, 1) := by decide +kernel
theorem dX6_isWord_34 : decode cX6_isWord 34 = .ok (.istore_n 2, 1) := by decide +kernel
theorem dX6_isWord_35 : decode cX6_isWord 35 = .ok (.iload_n 2, 1) := by decide +kernel
theorem dX6_isWord_36 : decode cX6_isWord 36 = .ok (.aload_n 1, 1) := by decide +kernel
theorem dX6_isWord_37 : decode cX6_isWord 37 = .ok (.invokevirtual 75, 3) := by decide +kernel
theorem dX6_isWord_4 : decode cX6_isWord 4 = .ok (.ifCond .ne 27, 3) := by decide +kernel
theorem dX6_isWord_40 : decode cX6_isWord 40 = .ok (.if_icmp .ge 30, 3) := by decide +kernel
theorem dX6_isWord_43 : decode cX6_isWord 43 = .ok (.aload_n 0, 1) := by decide +kernel
theorem dX6_isWord_44 : decode cX6_isWord 44 = .ok (.getfield 22, 3) := by decide +kernel
theorem dX6_isWord_47 : decode cX6_isWord 47 = .ok (.aload_n 0, 1) := by decide +kernel
theorem dX6_isWord_48 : decode cX6_isWord 48 = .ok (.getfield 57, 3) := by decide +kernel
theorem dX6_isWord_51 : decode cX6_isWord 51 = .ok (.iload_n 2, 1) := by decide +kernel
theorem dX6_isWord_52 : decode cX6_isWord 52 = .ok (.iadd, 1) := by decide +kernel
theorem dX6_isWord_53 : decode cX6_isWord 53 = .ok (.baload, 1) := by decide +kernel
theorem dX6_isWord_54 : decode cX6_isWord 54 = .ok (.aload_n 1, 1) := by decide +kernel
theorem dX6_isWord_55 : decode cX6_isWord 55 = .ok (.iload_n 2, 1) := by decide +kernel
theorem dX6_isWord_56 : decode cX6_isWord 56 = .ok (.invokevirtual 78, 3) := by decide +kernel
theorem dX6_isWord_59 : decode cX6_isWord 59 = .ok (.if_icmp .eq 5, 3) := by decide +kernel
theorem dX6_isWord_62 : decode cX6_isWord 62 = .ok (.iconst 0, 1) := by decide +kernel
theorem dX6_isWord_63 : decode cX6_isWord 63 = .ok (.ireturn, 1) := by decide +kernel
theorem dX6_isWord_64 : decode cX6_isWord 64 = .ok (.iinc 2 1, 3) := by decide +kernel
theorem dX6_isWord_67 : decode cX6_isWord 67 = .ok (.goto (-32), 3) := by decide +kernel
theorem dX6_isWord_7 : decode cX6_isWord 7 = .ok (.aload_n 0, 1) := by decide +kernel
theorem dX6_isWord_70 : decode cX6_isWord 70 = .ok (.iconst 1, 1) := by decide +kernel
theorem dX6_isWord_71 : decode cX6_isWord 71 = .ok (.ireturn, 1) := by decide +kernel
theorem dX6_isWord_8 : decode cX6_isWord 8 = .ok (.getfield 48, 3) := by decide +kernel
theorem dX6_needSign_0 : decode cX6_needSign 0 = .ok (.aload_n 0, 1) := by decide +kernel
theorem dX6_needSign_1 : decode cX6_needSign 1 = .ok (.iload_n 1, 1) := by decide +kernel
theorem dX6_needSign_12 : decode cX6_needSign 12 = .ok (.goto 7, 3) := by decide +kernel
theorem dX6_needSign_15 : decode cX6_needSign 15 = .ok (.aload_n 0, 1) := by decide +kernel
theorem dX6_needSign_16 : decode cX6_needSign 16 = .ok (.invokevirtual 90, 3) := by decide +kernel
theorem dX6_needSign_19 : decode cX6_needSign 19 = .ok (.return_, 1) := by decide +kernel
theorem dX6_needSign_2 : decode cX6_needSign 2 = .ok (.invokevirtual 93, 3) := by decide +kernel
theorem dX6_needSign_5 : decode cX6_needSign 5 = .ok (.ifCond .eq 10, 3) := by decide +kernel
theorem dX6_needSign_8 : decode cX6_needSign 8 = .ok (.aload_n 0, 1) := by decide +kernel
theorem dX6_needSign_9 : decode cX6_needSign 9 = .ok (.invokevirtual 42, 3) := by decide +kernel
theorem dX6_readBoth_0 : decode cX6_readBoth 0 = .ok (.aload_n 0, 1) := by decide +kernel
theorem dX6_readBoth_1 : decode cX6_readBoth 1 = .ok (.iload_n 1, 1) := by decide +kernel
theorem dX6_readBoth_11 : decode cX6_readBoth 11 = .ok (.if_icmp .ge 35, 3) := by decide +kernel
theorem dX6_readBoth_14 : decode cX6_readBoth 14 = .ok (.aload_n 0, 1) := by decide +kernel
theorem dX6_readBoth_15 : decode cX6_readBoth 15 = .ok (.ldc 245, 2) := by decide +kernel
theorem dX6_readBoth_17 : decode cX6_readBoth 17 = .ok (.invokevirtual 144, 3) := by decide +kernel
theorem dX6_readBoth_2 : decode cX6_readBoth 2 = .ok (.invokevirtual 242, 3) := by decide +kernel
theorem dX6_readBoth_20 : decode cX6_readBoth 20 = .ok (.ifCond .eq 26, 3) := by decide +kernel
theorem dX6_readBoth_23 : decode cX6_readBoth 23 = .ok (.aload_n 0, 1) := by decide +kernel
theorem dX6_readBoth_24 : decode cX6_readBoth 24 = .ok (.iload_n 1, 1) := by decide +kernel
theorem dX6_readBoth_25 : decode cX6_readBoth 25 = .ok (.invokevirtual 242, 3) := by decide +kernel
theorem dX6_readBoth_28 : decode cX6_readBoth 28 = .ok (.aload_n 0, 1) := by decide +kernel
theorem dX6_readBoth_29 : decode cX6_readBoth 29 = .ok (.getfield 12, 3) := by decide +kernel
theorem dX6_readBoth_32 : decode cX6_readBoth 32 = .ok (.getfield 152, 3) := by decide +kernel
theorem dX6_readBoth_35 : decode cX6_readBoth 35 = .ok (.bipush (-16), 2) := by decide +kernel
theorem dX6_readBoth_37 : decode cX6_readBoth 37 = .ok (.invokevirtual 239, 3) := by decide +kernel
theorem dX6_readBoth_40 : decode cX6_readBoth 40 = .ok (.iinc 2 1, 3) := by decide +kernel
theorem dX6_readBoth_43 : decode cX6_readBoth 43 = .ok (.goto (-36), 3) := by decide +kernel
theorem dX6_readBoth_46 : decode cX6_readBoth 46 = .ok (.return_, 1) := by decide +kernel
theorem dX6_readBoth_5 : decode cX6_readBoth 5 = .ok (.iconst 0, 1) := by decide +kernel
theorem dX6_readBoth_6 : decode cX6_readBoth 6 = .ok (.istore_n 2, 1) := by decide +kernel
theorem dX6_readBoth_7 : decode cX6_readBoth 7 = .ok (.iload_n 2, 1) := by decide +kernel
theorem dX6_readBoth_8 : decode cX6_readBoth 8 = .ok (.sipush 900, 3) := by decide +kernel
theorem dX6_readTruth_0 : decode cX6_readTruth 0 = .ok (.aload_n 0, 1) := by decide +kernel
theorem dX6_readTruth_1 : decode cX6_readTruth 1 = .ok (.iload_n 1, 1) := by decide +kernel
theorem dX6_readTruth_11 : decode cX6_readTruth 11 = .ok (.if_icmp .ge 35, 3) := by decide +kernel
theorem dX6_readTruth_14 : decode cX6_readTruth 14 = .ok (.aload_n 0, 1) := by decide +kernel
theorem dX6_readTruth_15 : decode cX6_readTruth 15 = .ok (.ldc 237, 2) := by decide +kernel
theorem dX6_readTruth_17 : decode cX6_readTruth 17 = .ok (.invokevirtual 144, 3) := by decide +kernel
theorem dX6_readTruth_2 : decode cX6_readTruth 2 = .ok (.invokevirtual 234, 3) := by decide +kernel
theorem dX6_readTruth_20 : decode cX6_readTruth 20 = .ok (.ifCond .eq 26, 3) := by decide +kernel
theorem dX6_readTruth_23 : decode cX6_readTruth 23 = .ok (.aload_n 0, 1) := by decide +kernel
theorem dX6_readTruth_24 : decode cX6_readTruth 24 = .ok (.iload_n 1, 1) := by decide +kernel
theorem dX6_readTruth_25 : decode cX6_readTruth 25 = .ok (.invokevirtual 234, 3) := by decide +kernel
theorem dX6_readTruth_28 : decode cX6_readTruth 28 = .ok (.aload_n 0, 1) := by decide +kernel
theorem dX6_readTruth_29 : decode cX6_readTruth 29 = .ok (.getfield 12, 3) := by decide +kernel
theorem dX6_readTruth_32 : decode cX6_readTruth 32 = .ok (.getfield 152, 3) := by decide +kernel
theorem dX6_readTruth_35 : decode cX6_readTruth 35 = .ok (.bipush (-17), 2) := by decide +kernel
theorem dX6_readTruth_37 : decode cX6_readTruth 37 = .ok (.invokevirtual 239, 3) := by decide +kernel
theorem dX6_readTruth_40 : decode cX6_readTruth 40 = .ok (.iinc 2 1, 3) := by decide +kernel
theorem dX6_readTruth_43 : decode cX6_readTruth 43 = .ok (.goto (-36), 3) := by decide +kernel
theorem dX6_readTruth_46 : decode cX6_readTruth 46 = .ok (.return_, 1) := by decide +kernel
theorem dX6_readTruth_5 : decode cX6_readTruth 5 = .ok (.iconst 0, 1) := by decide +kernel
theorem dX6_readTruth_6 : decode cX6_readTruth 6 = .ok (.istore_n 2, 1) := by decide +kernel
theorem dX6_readTruth_7 : decode cX6_readTruth 7 = .ok (.iload_n 2, 1) := by decide +kernel
theorem dX6_readTruth_8 : decode cX6_readTruth 8 = .ok (.sipush 900, 3) := by decide +kernel
theorem dX6_readUnit_0 : decode cX6_readUnit 0 = .ok (.aload_n 0, 1) := by decide +kernel
theorem dX6_readUnit_1 : decode cX6_readUnit 1 = .ok (.ldc 247, 2) := by decide +kernel
theorem dX6_readUnit_10 : decode cX6_readUnit 10 = .ok (.iload_n 1, 1) := by decide +kernel
theorem dX6_readUnit_102 : decode cX6_readUnit 102 = .ok (.aload_n 0, 1) := by decide +kernel
theorem dX6_readUnit_103 : decode cX6_readUnit 103 = .ok (.getfield 12, 3) := by decide +kernel
theorem dX6_readUnit_106 : decode cX6_readUnit 106 = .ok (.getfield 152, 3) := by decide +kernel
theorem dX6_readUnit_109 : decode cX6_readUnit 109 = .ok (.iload_n 2, 1) := by decide +kernel
theorem dX6_readUnit_11 : decode cX6_readUnit 11 = .ok (.invokevirtual 249, 3) := by decide +kernel
theorem dX6_readUnit_110 : decode cX6_readUnit 110 = .ok (.invokevirtual 239, 3) := by decide +kernel
theorem dX6_readUnit_113 : decode cX6_readUnit 113 = .ok (.return_, 1) := by decide +kernel
theorem dX6_readUnit_14 : decode cX6_readUnit 14 = .ok (.ifCond .eq 99, 3) := by decide +kernel
theorem dX6_readUnit_17 : decode cX6_readUnit 17 = .ok (.aload_n 0, 1) := by decide +kernel
theorem dX6_readUnit_18 : decode cX6_readUnit 18 = .ok (.iload_n 1, 1) := by decide +kernel
theorem dX6_readUnit_19 : decode cX6_readUnit 19 = .ok (.iconst 1, 1) := by decide +kernel
theorem dX6_readUnit_20 : decode cX6_readUnit 20 = .ok (.iadd, 1) := by decide +kernel
theorem dX6_readUnit_21 : decode cX6_readUnit 21 = .ok (.invokevirtual 242, 3) := by decide +kernel
theorem dX6_readUnit_24 : decode cX6_readUnit 24 = .ok (.aload_n 0, 1) := by decide +kernel
theorem dX6_readUnit_25 : decode cX6_readUnit 25 = .ok (.getfield 12, 3) := by decide +kernel
theorem dX6_readUnit_28 : decode cX6_readUnit 28 = .ok (.getfield 152, 3) := by decide +kernel
theorem dX6_readUnit_3 : decode cX6_readUnit 3 = .ok (.invokevirtual 86, 3) := by decide +kernel
theorem dX6_readUnit_31 : decode cX6_readUnit 31 = .ok (.bipush (-9), 2) := by decide +kernel
theorem dX6_readUnit_33 : decode cX6_readUnit 33 = .ok (.invokevirtual 239, 3) := by decide +kernel
theorem dX6_readUnit_36 : decode cX6_readUnit 36 = .ok (.goto 77, 3) := by decide +kernel
theorem dX6_readUnit_39 : decode cX6_readUnit 39 = .ok (.aload_n 0, 1) := by decide +kernel
theorem dX6_readUnit_40 : decode cX6_readUnit 40 = .ok (.bipush 91, 2) := by decide +kernel
theorem dX6_readUnit_42 : decode cX6_readUnit 42 = .ok (.invokevirtual 93, 3) := by decide +kernel
theorem dX6_readUnit_45 : decode cX6_readUnit 45 = .ok (.ifCond .eq 27, 3) := by decide +kernel
theorem dX6_readUnit_48 : decode cX6_readUnit 48 = .ok (.aload_n 0, 1) := by decide +kernel
theorem dX6_readUnit_49 : decode cX6_readUnit 49 = .ok (.iload_n 1, 1) := by decide +kernel
theorem dX6_readUnit_50 : decode cX6_readUnit 50 = .ok (.invokevirtual 249, 3) := by decide +kernel
theorem dX6_readUnit_53 : decode cX6_readUnit 53 = .ok (.ifCond .eq 60, 3) := by decide +kernel
theorem dX6_readUnit_56 : decode cX6_readUnit 56 = .ok (.aload_n 0, 1) := by decide +kernel
theorem dX6_readUnit_57 : decode cX6_readUnit 57 = .ok (.iload_n 1, 1) := by decide +kernel
theorem dX6_readUnit_58 : decode cX6_readUnit 58 = .ok (.iconst 1, 1) := by decide +kernel
theorem dX6_readUnit_59 : decode cX6_readUnit 59 = .ok (.iadd, 1) := by decide +kernel
theorem dX6_readUnit_6 : decode cX6_readUnit 6 = .ok (.ifCond .eq 33, 3) := by decide +kernel
theorem dX6_readUnit_60 : decode cX6_readUnit 60 = .ok (.invokevirtual 160, 3) := by decide +kernel
theorem dX6_readUnit_63 : decode cX6_readUnit 63 = .ok (.aload_n 0, 1) := by decide +kernel
theorem dX6_readUnit_64 : decode cX6_readUnit 64 = .ok (.bipush 93, 2) := by decide +kernel
theorem dX6_readUnit_66 : decode cX6_readUnit 66 = .ok (.invokevirtual 120, 3) := by decide +kernel
theorem dX6_readUnit_69 : decode cX6_readUnit 69 = .ok (.goto 44, 3) := by decide +kernel
theorem dX6_readUnit_72 : decode cX6_readUnit 72 = .ok (.aload_n 0, 1) := by decide +kernel
theorem dX6_readUnit_73 : decode cX6_readUnit 73 = .ok (.iload_n 1, 1) := by decide +kernel
theorem dX6_readUnit_74 : decode cX6_readUnit 74 = .ok (.invokevirtual 253, 3) := by decide +kernel
theorem dX6_readUnit_77 : decode cX6_readUnit 77 = .ok (.aload_n 0, 1) := by decide +kernel
theorem dX6_readUnit_78 : decode cX6_readUnit 78 = .ok (.invokevirtual 256, 3) := by decide +kernel
theorem dX6_readUnit_81 : decode cX6_readUnit 81 = .ok (.istore_n 2, 1) := by decide +kernel
theorem dX6_readUnit_82 : decode cX6_readUnit 82 = .ok (.iload_n 2, 1) := by decide +kernel
theorem dX6_readUnit_83 : decode cX6_readUnit 83 = .ok (.ifCond .ne 10, 3) := by decide +kernel
theorem dX6_readUnit_86 : decode cX6_readUnit 86 = .ok (.aload_n 0, 1) := by decide +kernel
theorem dX6_readUnit_87 : decode cX6_readUnit 87 = .ok (.invokevirtual 90, 3) := by decide +kernel
theorem dX6_readUnit_9 : decode cX6_readUnit 9 = .ok (.aload_n 0, 1) := by decide +kernel
theorem dX6_readUnit_90 : decode cX6_readUnit 90 = .ok (.goto 7, 3) := by decide +kernel
theorem dX6_readUnit_93 : decode cX6_readUnit 93 = .ok (.aload_n 0, 1) := by decide +kernel
theorem dX6_readUnit_94 : decode cX6_readUnit 94 = .ok (.invokevirtual 42, 3) := by decide +kernel
theorem dX6_readUnit_97 : decode cX6_readUnit 97 = .ok (.aload_n 0, 1) := by decide +kernel
theorem dX6_readUnit_98 : decode cX6_readUnit 98 = .ok (.iload_n 1, 1) := by decide +kernel
theorem dX6_readUnit_99 : decode cX6_readUnit 99 = .ok (.invokevirtual 253, 3) := by decide +kernel
theorem dX6_refuse_0 : decode cX6_refuse 0 = .ok (.aload_n 0, 1) := by decide +kernel
theorem dX6_refuse_1 : decode cX6_refuse 1 = .ok (.aload_n 0, 1) := by decide +kernel
theorem dX6_refuse_10 : decode cX6_refuse 10 = .ok (.goto 4, 3) := by decide +kernel
theorem dX6_refuse_13 : decode cX6_refuse 13 = .ok (.iconst 2, 1) := by decide +kernel
theorem dX6_refuse_14 : decode cX6_refuse 14 = .ok (.invokevirtual 82, 3) := by decide +kernel
theorem dX6_refuse_17 : decode cX6_refuse 17 = .ok (.return_, 1) := by decide +kernel
theorem dX6_refuse_2 : decode cX6_refuse 2 = .ok (.getfield 48, 3) := by decide +kernel
theorem dX6_refuse_5 : decode cX6_refuse 5 = .ok (.iconst 4, 1) := by decide +kernel
theorem dX6_refuse_6 : decode cX6_refuse 6 = .ok (.if_icmp .ne 7, 3) := by decide +kernel
theorem dX6_refuse_9 : decode cX6_refuse 9 = .ok (.iconst 1, 1) := by decide +kernel
theorem dX6_takeWord_0 : decode cX6_takeWord 0 = .ok (.aload_n 0, 1) := by decide +kernel
theorem dX6_takeWord_1 : decode cX6_takeWord 1 = .ok (.aload_n 1, 1) := by decide +kernel
theorem dX6_takeWord_10 : decode cX6_takeWord 10 = .ok (.aload_n 0, 1) := by decide +kernel
theorem dX6_takeWord_11 : decode cX6_takeWord 11 = .ok (.invokevirtual 42, 3) := by decide +kernel
theorem dX6_takeWord_14 : decode cX6_takeWord 14 = .ok (.iload_n 2, 1) := by decide +kernel
theorem dX6_takeWord_15 : decode cX6_takeWord 15 = .ok (.ireturn, 1) := by decide +kernel
theorem dX6_takeWord_2 : decode cX6_takeWord 2 = .ok (.invokevirtual 86, 3) := by decide +kernel
theorem dX6_takeWord_5 : decode cX6_takeWord 5 = .ok (.istore_n 2, 1) := by decide +kernel
theorem dX6_takeWord_6 : decode cX6_takeWord 6 = .ok (.iload_n 2, 1) := by decide +kernel
theorem dX6_takeWord_7 : decode cX6_takeWord 7 = .ok (.ifCond .eq 7, 3) := by decide +kernel
set_option maxHeartbeats 4000000 in
set_option maxRecDepth 4000 in
theorem kp_X6_advance_18 (l : Launch) (M : Mem) (hJ : Iw M) (hp0 : M 18 5 ≤ M 18 4) : CV l yX6_advance cX6_advance 2 none 6 (fun ad => [.ref (ad 18)]) M (fun M' => Fr [18] M M' ∧ (M' 18 4 = M 18 4 ∧ M' 18 6 ≤ M' 18 5 ∧ M' 18 5 ≤ M' 18 4 ∧ M' 18 1 = M 18 1)) := by
  obtain ⟨hI, hW⟩ := hJ
  have hF : Fr [18] M M := Fr.rf
  refine en_v (by decide +kernel) (fun ad => by exact Nat.le_of_ble_eq_true rfl) (fun D cy ad A p e s m args below meth c Q F hret => ?_)
  refine z_eq (ls' := [(0, .ref (ad 18))]) rfl rfl rfl ?_
  obtain ⟨u1, eu1⟩ : ∃ v : Int, v = M 18 1 := ⟨_, rfl⟩
  have ku1 : (-2147483648) ≤ u1 ∧ u1 ≤ 2147483647 := by have := hI.at (show Bd 18 1 = (-2147483648, 2147483647) from rfl); omega
  obtain ⟨u2, eu2⟩ : ∃ v : Int, v = M 18 4 := ⟨_, rfl⟩
  have ku2 : 0 ≤ u2 ∧ u2 ≤ 900 := by have := hI.at (show Bd 18 4 = (0, 900) from rfl); omega
  obtain ⟨u3, eu3⟩ : ∃ v : Int, v = M 18 5 := ⟨_, rfl⟩
  have ku3 : 0 ≤ u3 ∧ u3 ≤ 900 := by have := hI.at (show Bd 18 5 = (0, 900) from rfl); omega
  obtain ⟨u4, eu4⟩ : ∃ v : Int, v = M 18 6 := ⟨_, rfl⟩
  have ku4 : 0 ≤ u4 ∧ u4 ≤ 900 := by have := hI.at (show Bd 18 6 = (0, 900) from rfl); omega
  refine z_loc [0] (ls' := [(0, .ref (ad 18))]) rfl ?_
  suffices key0 : ∀ (n : Nat) (M5 : Mem), Inv M5 → WFk M5 → Fr [18] M M5 → (M5 18 4 = M 18 4) → (M5 18 1 = M 18 1) → (M5 18 5 ≤ M5 18 4) → 900 - M5 18 5 < (n : Int) → Z D cy ad p l e (RMh 6) s m args below meth c A 2 0 0 Q 0 [(0, .ref (ad 18))] [] M5 from key0 901 M hI hW hF (by omega) (by omega) (by omega) (by omega)
  intro n0
  induction n0 with
  | zero => intro M5 hI hW hF i0_0 i0_1 i0_2 hn0; exfalso; omega
  | succ n0 ih0 =>
    intro M5 hI hW hF i0_0 i0_1 i0_2 hn0
    obtain ⟨u6, eu6⟩ : ∃ v : Int, v = M5 18 1 := ⟨_, rfl⟩
    have ku6 : (-2147483648) ≤ u6 ∧ u6 ≤ 2147483647 := by have := hI.at (show Bd 18 1 = (-2147483648, 2147483647) from rfl); omega
    obtain ⟨u7, eu7⟩ : ∃ v : Int, v = M5 18 4 := ⟨_, rfl⟩
    have ku7 : 0 ≤ u7 ∧ u7 ≤ 900 := by have := hI.at (show Bd 18 4 = (0, 900) from rfl); omega
    obtain ⟨u8, eu8⟩ : ∃ v : Int, v = M5 18 5 := ⟨_, rfl⟩
    have ku8 : 0 ≤ u8 ∧ u8 ≤ 900 := by have := hI.at (show Bd 18 5 = (0, 900) from rfl); omega
    refine z_aload_n F dX6_advance_0 rfl (q := 0) rfl ?_
    refine gf_X6_33 F hI gs_18 rfl bd_18_5 dX6_advance_1 (fun v9 ev9 av9 bv9 => ?_)
    have zv9 : u8 = v9 := eu8.trans ev9.symm
    subst zv9
    refine z_aload_n F dX6_advance_4 rfl (q := 0) rfl ?_
    refine gf_X6_30 F hI gs_18 rfl bd_18_4 dX6_advance_5 (fun v10 ev10 av10 bv10 => ?_)
    have zv10 : u7 = v10 := eu7.trans ev10.symm
    subst zv10
    refine z_icmp_ge (tgt := 52) F dX6_advance_8 (by decide +kernel) (by omega) (by omega) (fun c11 => ?_) (fun c11 => ?_)
    · refine z_aload_n F dX6_advance_52 rfl (q := 0) rfl ?_
      refine z_aload_n F dX6_advance_53 rfl (q := 0) rfl ?_
      refine gf_X6_33 F hI gs_18 rfl bd_18_5 dX6_advance_54 (fun v12 ev12 av12 bv12 => ?_)
      have zv12 : u8 = v12 := eu8.trans ev12.symm
      subst zv12
      refine pf_X6_57 F hI gs_18 rfl bd_18_6 rfl rfl dX6_advance_57 (by omega) (by omega) (fun M14 hI sf13 f13 => ?_)
      have tM14_18_1 : M14 18 1 = M5 18 1 := f13 18 1 (fun q => absurd q.2 (by decide))
      have tM14_18_4 : M14 18 4 = M5 18 4 := f13 18 4 (fun q => absurd q.2 (by decide))
      have tM14_18_5 : M14 18 5 = M5 18 5 := f13 18 5 (fun q => absurd q.2 (by decide))
      have hF := hF.wr f13 (by decide) (by decide)
      have hW : WFk M14 := hW.site f13 (by decide)
      refine z_aload_n F dX6_advance_60 rfl (q := 0) rfl ?_
      refine z_iconst F dX6_advance_61 ?_
      refine pf_X6_60 F hI gs_18 rfl bd_18_8 rfl rfl dX6_advance_62 (by omega) (by omega) (fun M16 hI sf15 f15 => ?_)
      have tM16_18_1 : M16 18 1 = M14 18 1 := f15 18 1 (fun q => absurd q.2 (by decide))
      have tM16_18_4 : M16 18 4 = M14 18 4 := f15 18 4 (fun q => absurd q.2 (by decide))
      have tM16_18_5 : M16 18 5 = M14 18 5 := f15 18 5 (fun q => absurd q.2 (by decide))
      have tM16_18_6 : M16 18 6 = M14 18 6 := f15 18 6 (fun q => absurd q.2 (by decide))
      have hF := hF.wr f15 (by decide) (by decide)
      have hW : WFk M16 := hW.site f15 (by decide)
      refine z_aload_n F dX6_advance_65 rfl (q := 0) rfl ?_
      refine z_aload_n F dX6_advance_66 rfl (q := 0) rfl ?_
      refine gf_X6_33 F hI gs_18 rfl bd_18_5 dX6_advance_67 (fun v17 ev17 av17 bv17 => ?_)
      have q18 : u8 = M14 18 5 := eu8.trans (f13 18 5 (fun q => absurd q.2 (by decide))).symm
      have q19 : u8 = M16 18 5 := q18.trans (f15 18 5 (fun q => absurd q.2 (by decide))).symm
      have zv17 : u8 = v17 := q19.trans ev17.symm
      subst zv17
      refine z_aload_n F dX6_advance_70 rfl (q := 0) rfl ?_
      refine gf_X6_30 F hI gs_18 rfl bd_18_4 dX6_advance_71 (fun v20 ev20 av20 bv20 => ?_)
      have q21 : u7 = M14 18 4 := eu7.trans (f13 18 4 (fun q => absurd q.2 (by decide))).symm
      have q22 : u7 = M16 18 4 := q21.trans (f15 18 4 (fun q => absurd q.2 (by decide))).symm
      have zv20 : u7 = v20 := q22.trans ev20.symm
      subst zv20
      refine z_icmp_ge (tgt := 92) F dX6_advance_74 (by decide +kernel) (by omega) (by omega) (fun c23 => ?_) (fun c23 => ?_)
      · refine z_iconst F dX6_advance_92 ?_
        refine pf_X6_48 F hI gs_18 rfl bd_18_7 rfl rfl dX6_advance_93 (by omega) (by omega) (fun M25 hI sf24 f24 => ?_)
        have tM25_18_1 : M25 18 1 = M16 18 1 := f24 18 1 (fun q => absurd q.2 (by decide))
        have tM25_18_4 : M25 18 4 = M16 18 4 := f24 18 4 (fun q => absurd q.2 (by decide))
        have tM25_18_5 : M25 18 5 = M16 18 5 := f24 18 5 (fun q => absurd q.2 (by decide))
        have tM25_18_6 : M25 18 6 = M16 18 6 := f24 18 6 (fun q => absurd q.2 (by decide))
        have hF := hF.wr f24 (by decide) (by decide)
        have hW : WFk M25 := hW.site f24 (by decide)
        refine z_aload_n F dX6_advance_96 rfl (q := 0) rfl ?_
        refine gf_X6_48 F hI gs_18 rfl bd_18_7 dX6_advance_97 (fun v26 ev26 av26 bv26 => ?_)
        have zv26 : 0 = v26 := sf24.symm.trans ev26.symm
        subst zv26
        refine z_iconst F dX6_advance_100 ?_
        refine z_icmp_eq (tgt := 112) F dX6_advance_101 (by decide +kernel) (by omega) (by omega) (fun c27 => by exfalso; omega) (fun c27 => ?_)
        refine z_aload_n F dX6_advance_104 rfl (q := 0) rfl ?_
        refine gf_X6_48 F hI gs_18 rfl bd_18_7 dX6_advance_105 (fun v28 ev28 av28 bv28 => ?_)
        have zv28 : 0 = v28 := sf24.symm.trans ev28.symm
        subst zv28
        refine z_iconst F dX6_advance_108 ?_
        refine z_icmp_ne (tgt := 138) F dX6_advance_109 (by decide +kernel) (by omega) (by omega) (fun c29 => ?_) (fun c29 => by exfalso; omega)
        refine z_aload_n F dX6_advance_138 rfl (q := 0) rfl ?_
        refine gf_X6_48 F hI gs_18 rfl bd_18_7 dX6_advance_139 (fun v30 ev30 av30 bv30 => ?_)
        have zv30 : 0 = v30 := sf24.symm.trans ev30.symm
        subst zv30
        refine z_if_eq (tgt := 241) F dX6_advance_142 (by decide +kernel) (by omega) (fun c31 => ?_) (fun c31 => by exfalso; omega)
        have q32 : u6 = M14 18 1 := eu6.trans (f13 18 1 (fun q => absurd q.2 (by decide))).symm
        have q33 : u6 = M16 18 1 := q32.trans (f15 18 1 (fun q => absurd q.2 (by decide))).symm
        have q34 : u6 = M25 18 1 := q33.trans (f24 18 1 (fun q => absurd q.2 (by decide))).symm
        have q35 : u7 = M25 18 4 := q22.trans (f24 18 4 (fun q => absurd q.2 (by decide))).symm
        have q36 : u8 = M25 18 5 := q19.trans (f24 18 5 (fun q => absurd q.2 (by decide))).symm
        have q37 : u8 = M16 18 6 := sf13.symm.trans (f15 18 6 (fun q => absurd q.2 (by decide))).symm
        have q38 : u8 = M25 18 6 := q37.trans (f24 18 6 (fun q => absurd q.2 (by decide))).symm
        exact hret _ 241 _ ⟨hI, hW⟩ ⟨hF, (by omega)⟩ dX6_advance_241
      · refine z_aload_n F dX6_advance_77 rfl (q := 0) rfl ?_
        refine rf_X6_22 F gs_18 rfl dX6_advance_78 ?_
        refine z_aload_n F dX6_advance_81 rfl (q := 0) rfl ?_
        refine gf_X6_33 F hI gs_18 rfl bd_18_5 dX6_advance_82 (fun v39 ev39 av39 bv39 => ?_)
        have zv39 : u8 = v39 := q19.trans ev39.symm
        subst zv39
        refine z_bald F hI gs_1 (by omega) (by omega) (by decide) bd_1 dX6_advance_85 (fun v40 (ev40 : v40 = M16 1 _) av40 bv40 => ?_)
        refine zs_i (rest := [.ref (ad 18)]) F (kp_X6_sortOf l M16 ⟨hI, hW⟩ v40 (by omega) (by omega)) cs_X6_63 (by decide) (by decide) rfl rfl rfl (Nat.le_of_ble_eq_true rfl) dX6_advance_86 (fun v41 M42 rv41 hI p43 => ?_)
        obtain ⟨hI, hW⟩ := hI
        obtain ⟨⟨av41, bv41⟩, rfl⟩ := p43
        refine z_goto (tgt := 93) F dX6_advance_89 (by decide +kernel) ?_
        refine pf_X6_48 F hI gs_18 rfl bd_18_7 rfl rfl dX6_advance_93 (by omega) (by omega) (fun M45 hI sf44 f44 => ?_)
        have tM45_18_1 : M45 18 1 = M16 18 1 := f44 18 1 (fun q => absurd q.2 (by decide))
        have tM45_18_4 : M45 18 4 = M16 18 4 := f44 18 4 (fun q => absurd q.2 (by decide))
        have tM45_18_5 : M45 18 5 = M16 18 5 := f44 18 5 (fun q => absurd q.2 (by decide))
        have tM45_18_6 : M45 18 6 = M16 18 6 := f44 18 6 (fun q => absurd q.2 (by decide))
        have hF := hF.wr f44 (by decide) (by decide)
        have hW : WFk M45 := hW.site f44 (by decide)
        refine z_aload_n F dX6_advance_96 rfl (q := 0) rfl ?_
        refine gf_X6_48 F hI gs_18 rfl bd_18_7 dX6_advance_97 (fun v46 ev46 av46 bv46 => ?_)
        have zv46 : v41 = v46 := sf44.symm.trans ev46.symm
        subst zv46
        refine z_iconst F dX6_advance_100 ?_
        refine z_icmp_eq (tgt := 112) F dX6_advance_101 (by decide +kernel) (by omega) (by omega) (fun c47 => ?_) (fun c47 => ?_)
        · refine z_aload_n F dX6_advance_112 rfl (q := 0) rfl ?_
          refine z_aload_n F dX6_advance_113 rfl (q := 0) rfl ?_
          refine rf_X6_22 F gs_18 rfl dX6_advance_114 ?_
          refine z_aload_n F dX6_advance_117 rfl (q := 0) rfl ?_
          refine gf_X6_33 F hI gs_18 rfl bd_18_5 dX6_advance_118 (fun v48 ev48 av48 bv48 => ?_)
          have q49 : u8 = M45 18 5 := q19.trans (f44 18 5 (fun q => absurd q.2 (by decide))).symm
          have zv48 : u8 = v48 := q49.trans ev48.symm
          subst zv48
          refine z_bald F hI gs_1 (by omega) (by omega) (by decide) bd_1 dX6_advance_121 (fun v50 (ev50 : v50 = M45 1 _) av50 bv50 => ?_)
          have q51 : v40 = M45 1 (u8).toNat := ev40.trans (f44 1 (u8).toNat (fun q => absurd q.1 (by decide))).symm
          have zv50 : v40 = v50 := q51.trans ev50.symm
          subst zv50
          refine pf_X6_60 F hI gs_18 rfl bd_18_8 rfl rfl dX6_advance_122 (by omega) (by omega) (fun M53 hI sf52 f52 => ?_)
          have tM53_18_1 : M53 18 1 = M45 18 1 := f52 18 1 (fun q => absurd q.2 (by decide))
          have tM53_18_4 : M53 18 4 = M45 18 4 := f52 18 4 (fun q => absurd q.2 (by decide))
          have tM53_18_5 : M53 18 5 = M45 18 5 := f52 18 5 (fun q => absurd q.2 (by decide))
          have tM53_18_6 : M53 18 6 = M45 18 6 := f52 18 6 (fun q => absurd q.2 (by decide))
          have hF := hF.wr f52 (by decide) (by decide)
          have hW : WFk M53 := hW.site f52 (by decide)
          refine z_aload_n F dX6_advance_125 rfl (q := 0) rfl ?_
          refine z_dup F dX6_advance_126 rfl ?_
          refine gf_X6_33 F hI gs_18 rfl bd_18_5 dX6_advance_127 (fun v54 ev54 av54 bv54 => ?_)
          have q55 : u8 = M53 18 5 := q49.trans (f52 18 5 (fun q => absurd q.2 (by decide))).symm
          have zv54 : u8 = v54 := q55.trans ev54.symm
          subst zv54
          refine z_iconst F dX6_advance_130 ?_
          refine z_iadd F dX6_advance_131 ?_
          refine z_nm (fun v56 ev56 => ?_)
          refine pf_X6_33 F hI gs_18 rfl bd_18_5 rfl rfl dX6_advance_132 (by omega) (by omega) (fun M58 hI sf57 f57 => ?_)
          have tM58_18_1 : M58 18 1 = M53 18 1 := f57 18 1 (fun q => absurd q.2 (by decide))
          have tM58_18_4 : M58 18 4 = M53 18 4 := f57 18 4 (fun q => absurd q.2 (by decide))
          have tM58_18_6 : M58 18 6 = M53 18 6 := f57 18 6 (fun q => absurd q.2 (by decide))
          have hF := hF.wr f57 (by decide) (by decide)
          have hW : WFk M58 := hW.site f57 (by decide)
          refine z_goto (tgt := 241) F dX6_advance_135 (by decide +kernel) ?_
          have q59 : u6 = M14 18 1 := eu6.trans (f13 18 1 (fun q => absurd q.2 (by decide))).symm
          have q60 : u6 = M16 18 1 := q59.trans (f15 18 1 (fun q => absurd q.2 (by decide))).symm
          have q61 : u6 = M45 18 1 := q60.trans (f44 18 1 (fun q => absurd q.2 (by decide))).symm
          have q62 : u6 = M53 18 1 := q61.trans (f52 18 1 (fun q => absurd q.2 (by decide))).symm
          have q63 : u6 = M58 18 1 := q62.trans (f57 18 1 (fun q => absurd q.2 (by decide))).symm
          have q64 : u7 = M45 18 4 := q22.trans (f44 18 4 (fun q => absurd q.2 (by decide))).symm
          have q65 : u7 = M53 18 4 := q64.trans (f52 18 4 (fun q => absurd q.2 (by decide))).symm
          have q66 : u7 = M58 18 4 := q65.trans (f57 18 4 (fun q => absurd q.2 (by decide))).symm
          have q67 : u8 = M16 18 6 := sf13.symm.trans (f15 18 6 (fun q => absurd q.2 (by decide))).symm
          have q68 : u8 = M45 18 6 := q67.trans (f44 18 6 (fun q => absurd q.2 (by decide))).symm
          have q69 : u8 = M53 18 6 := q68.trans (f52 18 6 (fun q => absurd q.2 (by decide))).symm
          have q70 : u8 = M58 18 6 := q69.trans (f57 18 6 (fun q => absurd q.2 (by decide))).symm
          exact hret _ 241 _ ⟨hI, hW⟩ ⟨hF, (by omega)⟩ dX6_advance_241
        · refine z_aload_n F dX6_advance_104 rfl (q := 0) rfl ?_
          refine gf_X6_48 F hI gs_18 rfl bd_18_7 dX6_advance_105 (fun v71 ev71 av71 bv71 => ?_)
          have zv71 : v41 = v71 := sf44.symm.trans ev71.symm
          subst zv71
          refine z_iconst F dX6_advance_108 ?_
          refine z_icmp_ne (tgt := 138) F dX6_advance_109 (by decide +kernel) (by omega) (by omega) (fun c72 => ?_) (fun c72 => ?_)
          · refine z_aload_n F dX6_advance_138 rfl (q := 0) rfl ?_
            refine gf_X6_48 F hI gs_18 rfl bd_18_7 dX6_advance_139 (fun v73 ev73 av73 bv73 => ?_)
            have zv73 : v41 = v73 := sf44.symm.trans ev73.symm
            subst zv73
            refine z_if_eq (tgt := 241) F dX6_advance_142 (by decide +kernel) (by omega) (fun c74 => by exfalso; omega) (fun c74 => ?_)
            refine z_aload_n F dX6_advance_145 rfl (q := 0) rfl ?_
            refine gf_X6_48 F hI gs_18 rfl bd_18_7 dX6_advance_146 (fun v75 ev75 av75 bv75 => ?_)
            have zv75 : v41 = v75 := sf44.symm.trans ev75.symm
            subst zv75
            refine z_istore_n F dX6_advance_149 rfl (by decide) (ls' := [(1, ii v41), (0, .ref (ad 18))]) rfl ?_
            refine z_loc [1, 0] (ls' := [(0, .ref (ad 18)), (1, ii v41)]) rfl ?_
            have q77 : u6 = M14 18 1 := eu6.trans (f13 18 1 (fun q => absurd q.2 (by decide))).symm
            have q78 : u6 = M16 18 1 := q77.trans (f15 18 1 (fun q => absurd q.2 (by decide))).symm
            have q79 : u6 = M45 18 1 := q78.trans (f44 18 1 (fun q => absurd q.2 (by decide))).symm
            have q80 : u7 = M45 18 4 := q22.trans (f44 18 4 (fun q => absurd q.2 (by decide))).symm
            have q81 : u8 = M45 18 5 := q19.trans (f44 18 5 (fun q => absurd q.2 (by decide))).symm
            have q82 : u8 = M16 18 6 := sf13.symm.trans (f15 18 6 (fun q => absurd q.2 (by decide))).symm
            have q83 : u8 = M45 18 6 := q82.trans (f44 18 6 (fun q => absurd q.2 (by decide))).symm
            suffices key150 : ∀ (n : Nat) (M76 : Mem), Inv M76 → WFk M76 → Fr [18] M M76 → (M76 18 4 = M 18 4) → (M76 18 1 = M 18 1) → (M76 18 6 ≤ M76 18 5 ∧ M76 18 5 ≤ M76 18 4) → 900 - M76 18 5 < (n : Int) → Z D cy ad p l e (RMh 6) s m args below meth c A 2 0 0 Q 150 [(0, .ref (ad 18)), (1, ii v41)] [] M76 from key150 901 M45 hI hW hF (by omega) (by omega) (by omega) (by omega)
            intro n150
            induction n150 with
            | zero => intro M76 hI hW hF i150_0 i150_1 i150_2 hn150; exfalso; omega
            | succ n150 ih150 =>
              intro M76 hI hW hF i150_0 i150_1 i150_2 hn150
              obtain ⟨u84, eu84⟩ : ∃ v : Int, v = M76 18 1 := ⟨_, rfl⟩
              have ku84 : (-2147483648) ≤ u84 ∧ u84 ≤ 2147483647 := by have := hI.at (show Bd 18 1 = (-2147483648, 2147483647) from rfl); omega
              obtain ⟨u85, eu85⟩ : ∃ v : Int, v = M76 18 4 := ⟨_, rfl⟩
              have ku85 : 0 ≤ u85 ∧ u85 ≤ 900 := by have := hI.at (show Bd 18 4 = (0, 900) from rfl); omega
              obtain ⟨u86, eu86⟩ : ∃ v : Int, v = M76 18 5 := ⟨_, rfl⟩
              have ku86 : 0 ≤ u86 ∧ u86 ≤ 900 := by have := hI.at (show Bd 18 5 = (0, 900) from rfl); omega
              obtain ⟨u87, eu87⟩ : ∃ v : Int, v = M76 18 6 := ⟨_, rfl⟩
              have ku87 : 0 ≤ u87 ∧ u87 ≤ 900 := by have := hI.at (show Bd 18 6 = (0, 900) from rfl); omega
              refine z_aload_n F dX6_advance_150 rfl (q := 0) rfl ?_
              refine gf_X6_33 F hI gs_18 rfl bd_18_5 dX6_advance_151 (fun v88 ev88 av88 bv88 => ?_)
              have zv88 : u86 = v88 := eu86.trans ev88.symm
              subst zv88
              refine z_aload_n F dX6_advance_154 rfl (q := 0) rfl ?_
              refine gf_X6_30 F hI gs_18 rfl bd_18_4 dX6_advance_155 (fun v89 ev89 av89 bv89 => ?_)
              have zv89 : u85 = v89 := eu85.trans ev89.symm
              subst zv89
              refine z_icmp_ge (tgt := 214) F dX6_advance_158 (by decide +kernel) (by omega) (by omega) (fun c90 => ?_) (fun c90 => ?_)
              · refine z_aload_n F dX6_advance_214 rfl (q := 0) rfl ?_
                refine z_iload_n F dX6_advance_215 rfl (q := 1) rfl ?_
                refine z_iconst F dX6_advance_216 ?_
                refine z_icmp_ne (tgt := 237) F dX6_advance_217 (by decide +kernel) (by omega) (by omega) (fun c91 => ?_) (fun c91 => ?_)
                · refine z_iload_n F dX6_advance_237 rfl (q := 1) rfl ?_
                  refine pf_X6_48 F hI gs_18 rfl bd_18_7 rfl rfl dX6_advance_238 (by omega) (by omega) (fun M93 hI sf92 f92 => ?_)
                  have tM93_18_1 : M93 18 1 = M76 18 1 := f92 18 1 (fun q => absurd q.2 (by decide))
                  have tM93_18_4 : M93 18 4 = M76 18 4 := f92 18 4 (fun q => absurd q.2 (by decide))
                  have tM93_18_5 : M93 18 5 = M76 18 5 := f92 18 5 (fun q => absurd q.2 (by decide))
                  have tM93_18_6 : M93 18 6 = M76 18 6 := f92 18 6 (fun q => absurd q.2 (by decide))
                  have hF := hF.wr f92 (by decide) (by decide)
                  have hW : WFk M93 := hW.site f92 (by decide)
                  have q94 : u84 = M93 18 1 := eu84.trans (f92 18 1 (fun q => absurd q.2 (by decide))).symm
                  have q95 : u85 = M93 18 4 := eu85.trans (f92 18 4 (fun q => absurd q.2 (by decide))).symm
                  have q96 : u86 = M93 18 5 := eu86.trans (f92 18 5 (fun q => absurd q.2 (by decide))).symm
                  have q97 : u87 = M93 18 6 := eu87.trans (f92 18 6 (fun q => absurd q.2 (by decide))).symm
                  exact hret _ 241 _ ⟨hI, hW⟩ ⟨hF, (by omega)⟩ dX6_advance_241
                · refine z_aload_n F dX6_advance_220 rfl (q := 0) rfl ?_
                  refine gf_X6_33 F hI gs_18 rfl bd_18_5 dX6_advance_221 (fun v98 ev98 av98 bv98 => ?_)
                  have zv98 : u86 = v98 := eu86.trans ev98.symm
                  subst zv98
                  refine z_aload_n F dX6_advance_224 rfl (q := 0) rfl ?_
                  refine gf_X6_57 F hI gs_18 rfl bd_18_6 dX6_advance_225 (fun v99 ev99 av99 bv99 => ?_)
                  have zv99 : u87 = v99 := eu87.trans ev99.symm
                  subst zv99
                  refine z_isub F dX6_advance_228 ?_
                  refine z_iconst F dX6_advance_229 ?_
                  refine z_icmp_le (tgt := 237) F dX6_advance_230 (by decide +kernel) (by omega) (by omega) (fun c100 => ?_) (fun c100 => ?_)
                  · refine z_iload_n F dX6_advance_237 rfl (q := 1) rfl ?_
                    refine pf_X6_48 F hI gs_18 rfl bd_18_7 rfl rfl dX6_advance_238 (by omega) (by omega) (fun M102 hI sf101 f101 => ?_)
                    have tM102_18_1 : M102 18 1 = M76 18 1 := f101 18 1 (fun q => absurd q.2 (by decide))
                    have tM102_18_4 : M102 18 4 = M76 18 4 := f101 18 4 (fun q => absurd q.2 (by decide))
                    have tM102_18_5 : M102 18 5 = M76 18 5 := f101 18 5 (fun q => absurd q.2 (by decide))
                    have tM102_18_6 : M102 18 6 = M76 18 6 := f101 18 6 (fun q => absurd q.2 (by decide))
                    have hF := hF.wr f101 (by decide) (by decide)
                    have hW : WFk M102 := hW.site f101 (by decide)
                    have q103 : u84 = M102 18 1 := eu84.trans (f101 18 1 (fun q => absurd q.2 (by decide))).symm
                    have q104 : u85 = M102 18 4 := eu85.trans (f101 18 4 (fun q => absurd q.2 (by decide))).symm
                    have q105 : u86 = M102 18 5 := eu86.trans (f101 18 5 (fun q => absurd q.2 (by decide))).symm
                    have q106 : u87 = M102 18 6 := eu87.trans (f101 18 6 (fun q => absurd q.2 (by decide))).symm
                    exact hret _ 241 _ ⟨hI, hW⟩ ⟨hF, (by omega)⟩ dX6_advance_241
                  · refine z_iconst F dX6_advance_233 ?_
                    refine z_goto (tgt := 238) F dX6_advance_234 (by decide +kernel) ?_
                    refine pf_X6_48 F hI gs_18 rfl bd_18_7 rfl rfl dX6_advance_238 (by omega) (by omega) (fun M108 hI sf107 f107 => ?_)
                    have tM108_18_1 : M108 18 1 = M76 18 1 := f107 18 1 (fun q => absurd q.2 (by decide))
                    have tM108_18_4 : M108 18 4 = M76 18 4 := f107 18 4 (fun q => absurd q.2 (by decide))
                    have tM108_18_5 : M108 18 5 = M76 18 5 := f107 18 5 (fun q => absurd q.2 (by decide))
                    have tM108_18_6 : M108 18 6 = M76 18 6 := f107 18 6 (fun q => absurd q.2 (by decide))
                    have hF := hF.wr f107 (by decide) (by decide)
                    have hW : WFk M108 := hW.site f107 (by decide)
                    have q109 : u84 = M108 18 1 := eu84.trans (f107 18 1 (fun q => absurd q.2 (by decide))).symm
                    have q110 : u85 = M108 18 4 := eu85.trans (f107 18 4 (fun q => absurd q.2 (by decide))).symm
                    have q111 : u86 = M108 18 5 := eu86.trans (f107 18 5 (fun q => absurd q.2 (by decide))).symm
                    have q112 : u87 = M108 18 6 := eu87.trans (f107 18 6 (fun q => absurd q.2 (by decide))).symm
                    exact hret _ 241 _ ⟨hI, hW⟩ ⟨hF, (by omega)⟩ dX6_advance_241
              · refine z_aload_n F dX6_advance_161 rfl (q := 0) rfl ?_
                refine rf_X6_22 F gs_18 rfl dX6_advance_162 ?_
                refine z_aload_n F dX6_advance_165 rfl (q := 0) rfl ?_
                refine gf_X6_33 F hI gs_18 rfl bd_18_5 dX6_advance_166 (fun v113 ev113 av113 bv113 => ?_)
                have zv113 : u86 = v113 := eu86.trans ev113.symm
                subst zv113
                refine z_bald F hI gs_1 (by omega) (by omega) (by decide) bd_1 dX6_advance_169 (fun v114 (ev114 : v114 = M76 1 _) av114 bv114 => ?_)
                refine zs_i (rest := []) F (kp_X6_sortOf l M76 ⟨hI, hW⟩ v114 (by omega) (by omega)) cs_X6_63 (by decide) (by decide) rfl rfl rfl (Nat.le_of_ble_eq_true rfl) dX6_advance_170 (fun v115 M116 rv115 hI p117 => ?_)
                obtain ⟨hI, hW⟩ := hI
                obtain ⟨⟨av115, bv115⟩, rfl⟩ := p117
                refine z_iload_n F dX6_advance_173 rfl (q := 1) rfl ?_
                refine z_icmp_ne (tgt := 214) F dX6_advance_174 (by decide +kernel) (by omega) (by omega) (fun c118 => ?_) (fun c118 => ?_)
                · refine z_aload_n F dX6_advance_214 rfl (q := 0) rfl ?_
                  refine z_iload_n F dX6_advance_215 rfl (q := 1) rfl ?_
                  refine z_iconst F dX6_advance_216 ?_
                  refine z_icmp_ne (tgt := 237) F dX6_advance_217 (by decide +kernel) (by omega) (by omega) (fun c119 => ?_) (fun c119 => ?_)
                  · refine z_iload_n F dX6_advance_237 rfl (q := 1) rfl ?_
                    refine pf_X6_48 F hI gs_18 rfl bd_18_7 rfl rfl dX6_advance_238 (by omega) (by omega) (fun M121 hI sf120 f120 => ?_)
                    have tM121_18_1 : M121 18 1 = M76 18 1 := f120 18 1 (fun q => absurd q.2 (by decide))
                    have tM121_18_4 : M121 18 4 = M76 18 4 := f120 18 4 (fun q => absurd q.2 (by decide))
                    have tM121_18_5 : M121 18 5 = M76 18 5 := f120 18 5 (fun q => absurd q.2 (by decide))
                    have tM121_18_6 : M121 18 6 = M76 18 6 := f120 18 6 (fun q => absurd q.2 (by decide))
                    have hF := hF.wr f120 (by decide) (by decide)
                    have hW : WFk M121 := hW.site f120 (by decide)
                    have q122 : u84 = M121 18 1 := eu84.trans (f120 18 1 (fun q => absurd q.2 (by decide))).symm
                    have q123 : u85 = M121 18 4 := eu85.trans (f120 18 4 (fun q => absurd q.2 (by decide))).symm
                    have q124 : u86 = M121 18 5 := eu86.trans (f120 18 5 (fun q => absurd q.2 (by decide))).symm
                    have q125 : u87 = M121 18 6 := eu87.trans (f120 18 6 (fun q => absurd q.2 (by decide))).symm
                    exact hret _ 241 _ ⟨hI, hW⟩ ⟨hF, (by omega)⟩ dX6_advance_241
                  · refine z_aload_n F dX6_advance_220 rfl (q := 0) rfl ?_
                    refine gf_X6_33 F hI gs_18 rfl bd_18_5 dX6_advance_221 (fun v126 ev126 av126 bv126 => ?_)
                    have zv126 : u86 = v126 := eu86.trans ev126.symm
                    subst zv126
                    refine z_aload_n F dX6_advance_224 rfl (q := 0) rfl ?_
                    refine gf_X6_57 F hI gs_18 rfl bd_18_6 dX6_advance_225 (fun v127 ev127 av127 bv127 => ?_)
                    have zv127 : u87 = v127 := eu87.trans ev127.symm
                    subst zv127
                    refine z_isub F dX6_advance_228 ?_
                    refine z_iconst F dX6_advance_229 ?_
                    refine z_icmp_le (tgt := 237) F dX6_advance_230 (by decide +kernel) (by omega) (by omega) (fun c128 => ?_) (fun c128 => ?_)
                    · refine z_iload_n F dX6_advance_237 rfl (q := 1) rfl ?_
                      refine pf_X6_48 F hI gs_18 rfl bd_18_7 rfl rfl dX6_advance_238 (by omega) (by omega) (fun M130 hI sf129 f129 => ?_)
                      have tM130_18_1 : M130 18 1 = M76 18 1 := f129 18 1 (fun q => absurd q.2 (by decide))
                      have tM130_18_4 : M130 18 4 = M76 18 4 := f129 18 4 (fun q => absurd q.2 (by decide))
                      have tM130_18_5 : M130 18 5 = M76 18 5 := f129 18 5 (fun q => absurd q.2 (by decide))
                      have tM130_18_6 : M130 18 6 = M76 18 6 := f129 18 6 (fun q => absurd q.2 (by decide))
                      have hF := hF.wr f129 (by decide) (by decide)
                      have hW : WFk M130 := hW.site f129 (by decide)
                      have q131 : u84 = M130 18 1 := eu84.trans (f129 18 1 (fun q => absurd q.2 (by decide))).symm
                      have q132 : u85 = M130 18 4 := eu85.trans (f129 18 4 (fun q => absurd q.2 (by decide))).symm
                      have q133 : u86 = M130 18 5 := eu86.trans (f129 18 5 (fun q => absurd q.2 (by decide))).symm
                      have q134 : u87 = M130 18 6 := eu87.trans (f129 18 6 (fun q => absurd q.2 (by decide))).symm
                      exact hret _ 241 _ ⟨hI, hW⟩ ⟨hF, (by omega)⟩ dX6_advance_241
                    · refine z_iconst F dX6_advance_233 ?_
                      refine z_goto (tgt := 238) F dX6_advance_234 (by decide +kernel) ?_
                      refine pf_X6_48 F hI gs_18 rfl bd_18_7 rfl rfl dX6_advance_238 (by omega) (by omega) (fun M136 hI sf135 f135 => ?_)
                      have tM136_18_1 : M136 18 1 = M76 18 1 := f135 18 1 (fun q => absurd q.2 (by decide))
                      have tM136_18_4 : M136 18 4 = M76 18 4 := f135 18 4 (fun q => absurd q.2 (by decide))
                      have tM136_18_5 : M136 18 5 = M76 18 5 := f135 18 5 (fun q => absurd q.2 (by decide))
                      have tM136_18_6 : M136 18 6 = M76 18 6 := f135 18 6 (fun q => absurd q.2 (by decide))
                      have hF := hF.wr f135 (by decide) (by decide)
                      have hW : WFk M136 := hW.site f135 (by decide)
                      have q137 : u84 = M136 18 1 := eu84.trans (f135 18 1 (fun q => absurd q.2 (by decide))).symm
                      have q138 : u85 = M136 18 4 := eu85.trans (f135 18 4 (fun q => absurd q.2 (by decide))).symm
                      have q139 : u86 = M136 18 5 := eu86.trans (f135 18 5 (fun q => absurd q.2 (by decide))).symm
                      have q140 : u87 = M136 18 6 := eu87.trans (f135 18 6 (fun q => absurd q.2 (by decide))).symm
                      exact hret _ 241 _ ⟨hI, hW⟩ ⟨hF, (by omega)⟩ dX6_advance_241
                · refine z_aload_n F dX6_advance_177 rfl (q := 0) rfl ?_
                  refine z_bipush F dX6_advance_178 (by decide +kernel) ?_
                  refine z_aload_n F dX6_advance_180 rfl (q := 0) rfl ?_
                  refine gf_X6_60 F hI gs_18 rfl bd_18_8 dX6_advance_181 (fun v141 ev141 av141 bv141 => ?_)
                  refine z_imul F dX6_advance_184 ?_
                  refine z_wrap (fun v142 rv142 wv142 => ?_)
                  refine z_aload_n F dX6_advance_185 rfl (q := 0) rfl ?_
                  refine rf_X6_22 F gs_18 rfl dX6_advance_186 ?_
                  refine z_aload_n F dX6_advance_189 rfl (q := 0) rfl ?_
                  refine gf_X6_33 F hI gs_18 rfl bd_18_5 dX6_advance_190 (fun v143 ev143 av143 bv143 => ?_)
                  have zv143 : u86 = v143 := eu86.trans ev143.symm
                  subst zv143
                  refine z_bald F hI gs_1 (by omega) (by omega) (by decide) bd_1 dX6_advance_193 (fun v144 (ev144 : v144 = M76 1 _) av144 bv144 => ?_)
                  have zv144 : v114 = v144 := ev114.trans ev144.symm
                  subst zv144
                  refine z_iadd F dX6_advance_194 ?_
                  refine z_wrap (fun v145 rv145 wv145 => ?_)
                  refine z_bipush F dX6_advance_195 (by decide +kernel) ?_
                  refine z_isub F dX6_advance_197 ?_
                  refine z_wrap (fun v146 rv146 wv146 => ?_)
                  refine pf_X6_60 F hI gs_18 rfl bd_18_8 rfl rfl dX6_advance_198 (by omega) (by omega) (fun M148 hI sf147 f147 => ?_)
                  have tM148_18_1 : M148 18 1 = M76 18 1 := f147 18 1 (fun q => absurd q.2 (by decide))
                  have tM148_18_4 : M148 18 4 = M76 18 4 := f147 18 4 (fun q => absurd q.2 (by decide))
                  have tM148_18_5 : M148 18 5 = M76 18 5 := f147 18 5 (fun q => absurd q.2 (by decide))
                  have tM148_18_6 : M148 18 6 = M76 18 6 := f147 18 6 (fun q => absurd q.2 (by decide))
                  have hF := hF.wr f147 (by decide) (by decide)
                  have hW : WFk M148 := hW.site f147 (by decide)
                  refine z_aload_n F dX6_advance_201 rfl (q := 0) rfl ?_
                  refine z_dup F dX6_advance_202 rfl ?_
                  refine gf_X6_33 F hI gs_18 rfl bd_18_5 dX6_advance_203 (fun v149 ev149 av149 bv149 => ?_)
                  have q150 : u86 = M148 18 5 := eu86.trans (f147 18 5 (fun q => absurd q.2 (by decide))).symm
                  have zv149 : u86 = v149 := q150.trans ev149.symm
                  subst zv149
                  refine z_iconst F dX6_advance_206 ?_
                  refine z_iadd F dX6_advance_207 ?_
                  refine z_nm (fun v151 ev151 => ?_)
                  refine pf_X6_33 F hI gs_18 rfl bd_18_5 rfl rfl dX6_advance_208 (by omega) (by omega) (fun M153 hI sf152 f152 => ?_)
                  have tM153_18_1 : M153 18 1 = M148 18 1 := f152 18 1 (fun q => absurd q.2 (by decide))
                  have tM153_18_4 : M153 18 4 = M148 18 4 := f152 18 4 (fun q => absurd q.2 (by decide))
                  have tM153_18_6 : M153 18 6 = M148 18 6 := f152 18 6 (fun q => absurd q.2 (by decide))
                  have hF := hF.wr f152 (by decide) (by decide)
                  have hW : WFk M153 := hW.site f152 (by decide)
                  refine z_goto (tgt := 150) F dX6_advance_211 (by decide +kernel) ?_
                  refine z_loc [0, 1] (ls' := [(0, .ref (ad 18)), (1, ii v41)]) rfl ?_
                  have q154 : u84 = M148 18 1 := eu84.trans (f147 18 1 (fun q => absurd q.2 (by decide))).symm
                  have q155 : u84 = M153 18 1 := q154.trans (f152 18 1 (fun q => absurd q.2 (by decide))).symm
                  have q156 : u85 = M148 18 4 := eu85.trans (f147 18 4 (fun q => absurd q.2 (by decide))).symm
                  have q157 : u85 = M153 18 4 := q156.trans (f152 18 4 (fun q => absurd q.2 (by decide))).symm
                  have q158 : u87 = M148 18 6 := eu87.trans (f147 18 6 (fun q => absurd q.2 (by decide))).symm
                  have q159 : u87 = M153 18 6 := q158.trans (f152 18 6 (fun q => absurd q.2 (by decide))).symm
                  exact ih150 M153 hI hW hF (by omega) (by omega) (by omega) (by omega)
          · refine z_aload_n F dX6_advance_112 rfl (q := 0) rfl ?_
            refine z_aload_n F dX6_advance_113 rfl (q := 0) rfl ?_
            refine rf_X6_22 F gs_18 rfl dX6_advance_114 ?_
            refine z_aload_n F dX6_advance_117 rfl (q := 0) rfl ?_
            refine gf_X6_33 F hI gs_18 rfl bd_18_5 dX6_advance_118 (fun v160 ev160 av160 bv160 => ?_)
            have q161 : u8 = M45 18 5 := q19.trans (f44 18 5 (fun q => absurd q.2 (by decide))).symm
            have zv160 : u8 = v160 := q161.trans ev160.symm
            subst zv160
            refine z_bald F hI gs_1 (by omega) (by omega) (by decide) bd_1 dX6_advance_121 (fun v162 (ev162 : v162 = M45 1 _) av162 bv162 => ?_)
            have q163 : v40 = M45 1 (u8).toNat := ev40.trans (f44 1 (u8).toNat (fun q => absurd q.1 (by decide))).symm
            have zv162 : v40 = v162 := q163.trans ev162.symm
            subst zv162
            refine pf_X6_60 F hI gs_18 rfl bd_18_8 rfl rfl dX6_advance_122 (by omega) (by omega) (fun M165 hI sf164 f164 => ?_)
            have tM165_18_1 : M165 18 1 = M45 18 1 := f164 18 1 (fun q => absurd q.2 (by decide))
            have tM165_18_4 : M165 18 4 = M45 18 4 := f164 18 4 (fun q => absurd q.2 (by decide))
            have tM165_18_5 : M165 18 5 = M45 18 5 := f164 18 5 (fun q => absurd q.2 (by decide))
            have tM165_18_6 : M165 18 6 = M45 18 6 := f164 18 6 (fun q => absurd q.2 (by decide))
            have hF := hF.wr f164 (by decide) (by decide)
            have hW : WFk M165 := hW.site f164 (by decide)
            refine z_aload_n F dX6_advance_125 rfl (q := 0) rfl ?_
            refine z_dup F dX6_advance_126 rfl ?_
            refine gf_X6_33 F hI gs_18 rfl bd_18_5 dX6_advance_127 (fun v166 ev166 av166 bv166 => ?_)
            have q167 : u8 = M165 18 5 := q161.trans (f164 18 5 (fun q => absurd q.2 (by decide))).symm
            have zv166 : u8 = v166 := q167.trans ev166.symm
            subst zv166
            refine z_iconst F dX6_advance_130 ?_
            refine z_iadd F dX6_advance_131 ?_
            refine z_nm (fun v168 ev168 => ?_)
            refine pf_X6_33 F hI gs_18 rfl bd_18_5 rfl rfl dX6_advance_132 (by omega) (by omega) (fun M170 hI sf169 f169 => ?_)
            have tM170_18_1 : M170 18 1 = M165 18 1 := f169 18 1 (fun q => absurd q.2 (by decide))
            have tM170_18_4 : M170 18 4 = M165 18 4 := f169 18 4 (fun q => absurd q.2 (by decide))
            have tM170_18_6 : M170 18 6 = M165 18 6 := f169 18 6 (fun q => absurd q.2 (by decide))
            have hF := hF.wr f169 (by decide) (by decide)
            have hW : WFk M170 := hW.site f169 (by decide)
            refine z_goto (tgt := 241) F dX6_advance_135 (by decide +kernel) ?_
            have q171 : u6 = M14 18 1 := eu6.trans (f13 18 1 (fun q => absurd q.2 (by decide))).symm
            have q172 : u6 = M16 18 1 := q171.trans (f15 18 1 (fun q => absurd q.2 (by decide))).symm
            have q173 : u6 = M45 18 1 := q172.trans (f44 18 1 (fun q => absurd q.2 (by decide))).symm
            have q174 : u6 = M165 18 1 := q173.trans (f164 18 1 (fun q => absurd q.2 (by decide))).symm
            have q175 : u6 = M170 18 1 := q174.trans (f169 18 1 (fun q => absurd q.2 (by decide))).symm
            have q176 : u7 = M45 18 4 := q22.trans (f44 18 4 (fun q => absurd q.2 (by decide))).symm
            have q177 : u7 = M165 18 4 := q176.trans (f164 18 4 (fun q => absurd q.2 (by decide))).symm
            have q178 : u7 = M170 18 4 := q177.trans (f169 18 4 (fun q => absurd q.2 (by decide))).symm
            have q179 : u8 = M16 18 6 := sf13.symm.trans (f15 18 6 (fun q => absurd q.2 (by decide))).symm
            have q180 : u8 = M45 18 6 := q179.trans (f44 18 6 (fun q => absurd q.2 (by decide))).symm
            have q181 : u8 = M165 18 6 := q180.trans (f164 18 6 (fun q => absurd q.2 (by decide))).symm
            have q182 : u8 = M170 18 6 := q181.trans (f169 18 6 (fun q => absurd q.2 (by decide))).symm
            exact hret _ 241 _ ⟨hI, hW⟩ ⟨hF, (by omega)⟩ dX6_advance_241
    · refine z_aload_n F dX6_advance_11 rfl (q := 0) rfl ?_
      refine rf_X6_22 F gs_18 rfl dX6_advance_12 ?_
      refine z_aload_n F dX6_advance_15 rfl (q := 0) rfl ?_
      refine gf_X6_33 F hI gs_18 rfl bd_18_5 dX6_advance_16 (fun v183 ev183 av183 bv183 => ?_)
      have zv183 : u8 = v183 := eu8.trans ev183.symm
      subst zv183
      refine z_bald F hI gs_1 (by omega) (by omega) (by decide) bd_1 dX6_advance_19 (fun v184 (ev184 : v184 = M5 1 _) av184 bv184 => ?_)
      refine z_bipush F dX6_advance_20 (by decide +kernel) ?_
      refine z_icmp_eq (tgt := 39) F dX6_advance_22 (by decide +kernel) (by omega) (by omega) (fun c185 => ?_) (fun c185 => ?_)
      · refine z_aload_n F dX6_advance_39 rfl (q := 0) rfl ?_
        refine z_dup F dX6_advance_40 rfl ?_
        refine gf_X6_33 F hI gs_18 rfl bd_18_5 dX6_advance_41 (fun v186 ev186 av186 bv186 => ?_)
        have zv186 : u8 = v186 := eu8.trans ev186.symm
        subst zv186
        refine z_iconst F dX6_advance_44 ?_
        refine z_iadd F dX6_advance_45 ?_
        refine z_nm (fun v187 ev187 => ?_)
        refine pf_X6_33 F hI gs_18 rfl bd_18_5 rfl rfl dX6_advance_46 (by omega) (by omega) (fun M189 hI sf188 f188 => ?_)
        have tM189_18_1 : M189 18 1 = M5 18 1 := f188 18 1 (fun q => absurd q.2 (by decide))
        have tM189_18_4 : M189 18 4 = M5 18 4 := f188 18 4 (fun q => absurd q.2 (by decide))
        have tM189_18_6 : M189 18 6 = M5 18 6 := f188 18 6 (fun q => absurd q.2 (by decide))
        have hF := hF.wr f188 (by decide) (by decide)
        have hW : WFk M189 := hW.site f188 (by decide)
        refine z_goto (tgt := 0) F dX6_advance_49 (by decide +kernel) ?_
        refine z_loc [0] (ls' := [(0, .ref (ad 18))]) rfl ?_
        have q190 : u6 = M189 18 1 := eu6.trans (f188 18 1 (fun q => absurd q.2 (by decide))).symm
        have q191 : u7 = M189 18 4 := eu7.trans (f188 18 4 (fun q => absurd q.2 (by decide))).symm
        exact ih0 M189 hI hW hF (by omega) (by omega) (by omega) (by omega)
      · refine z_aload_n F dX6_advance_25 rfl (q := 0) rfl ?_
        refine rf_X6_22 F gs_18 rfl dX6_advance_26 ?_
        refine z_aload_n F dX6_advance_29 rfl (q := 0) rfl ?_
        refine gf_X6_33 F hI gs_18 rfl bd_18_5 dX6_advance_30 (fun v192 ev192 av192 bv192 => ?_)
        have zv192 : u8 = v192 := eu8.trans ev192.symm
        subst zv192
        refine z_bald F hI gs_1 (by omega) (by omega) (by decide) bd_1 dX6_advance_33 (fun v193 (ev193 : v193 = M5 1 _) av193 bv193 => ?_)
        have zv193 : v184 = v193 := ev184.trans ev193.symm
        subst zv193
        refine z_bipush F dX6_advance_34 (by decide +kernel) ?_
        refine z_icmp_ne (tgt := 52) F dX6_advance_36 (by decide +kernel) (by omega) (by omega) (fun c194 => ?_) (fun c194 => ?_)
        · refine z_aload_n F dX6_advance_52 rfl (q := 0) rfl ?_
          refine z_aload_n F dX6_advance_53 rfl (q := 0) rfl ?_
          refine gf_X6_33 F hI gs_18 rfl bd_18_5 dX6_advance_54 (fun v195 ev195 av195 bv195 => ?_)
          have zv195 : u8 = v195 := eu8.trans ev195.symm
          subst zv195
          refine pf_X6_57 F hI gs_18 rfl bd_18_6 rfl rfl dX6_advance_57 (by omega) (by omega) (fun M197 hI sf196 f196 => ?_)
          have tM197_18_1 : M197 18 1 = M5 18 1 := f196 18 1 (fun q => absurd q.2 (by decide))
          have tM197_18_4 : M197 18 4 = M5 18 4 := f196 18 4 (fun q => absurd q.2 (by decide))
          have tM197_18_5 : M197 18 5 = M5 18 5 := f196 18 5 (fun q => absurd q.2 (by decide))
          have hF := hF.wr f196 (by decide) (by decide)
          have hW : WFk M197 := hW.site f196 (by decide)
          refine z_aload_n F dX6_advance_60 rfl (q := 0) rfl ?_
          refine z_iconst F dX6_advance_61 ?_
          refine pf_X6_60 F hI gs_18 rfl bd_18_8 rfl rfl dX6_advance_62 (by omega) (by omega) (fun M199 hI sf198 f198 => ?_)
          have tM199_18_1 : M199 18 1 = M197 18 1 := f198 18 1 (fun q => absurd q.2 (by decide))
          have tM199_18_4 : M199 18 4 = M197 18 4 := f198 18 4 (fun q => absurd q.2 (by decide))
          have tM199_18_5 : M199 18 5 = M197 18 5 := f198 18 5 (fun q => absurd q.2 (by decide))
          have tM199_18_6 : M199 18 6 = M197 18 6 := f198 18 6 (fun q => absurd q.2 (by decide))
          have hF := hF.wr f198 (by decide) (by decide)
          have hW : WFk M199 := hW.site f198 (by decide)
          refine z_aload_n F dX6_advance_65 rfl (q := 0) rfl ?_
          refine z_aload_n F dX6_advance_66 rfl (q := 0) rfl ?_
          refine gf_X6_33 F hI gs_18 rfl bd_18_5 dX6_advance_67 (fun v200 ev200 av200 bv200 => ?_)
          have q201 : u8 = M197 18 5 := eu8.trans (f196 18 5 (fun q => absurd q.2 (by decide))).symm
          have q202 : u8 = M199 18 5 := q201.trans (f198 18 5 (fun q => absurd q.2 (by decide))).symm
          have zv200 : u8 = v200 := q202.trans ev200.symm
          subst zv200
          refine z_aload_n F dX6_advance_70 rfl (q := 0) rfl ?_
          refine gf_X6_30 F hI gs_18 rfl bd_18_4 dX6_advance_71 (fun v203 ev203 av203 bv203 => ?_)
          have q204 : u7 = M197 18 4 := eu7.trans (f196 18 4 (fun q => absurd q.2 (by decide))).symm
          have q205 : u7 = M199 18 4 := q204.trans (f198 18 4 (fun q => absurd q.2 (by decide))).symm
          have zv203 : u7 = v203 := q205.trans ev203.symm
          subst zv203
          refine z_icmp_ge (tgt := 92) F dX6_advance_74 (by decide +kernel) (by omega) (by omega) (fun c206 => ?_) (fun c206 => ?_)
          · refine z_iconst F dX6_advance_92 ?_
            refine pf_X6_48 F hI gs_18 rfl bd_18_7 rfl rfl dX6_advance_93 (by omega) (by omega) (fun M208 hI sf207 f207 => ?_)
            have tM208_18_1 : M208 18 1 = M199 18 1 := f207 18 1 (fun q => absurd q.2 (by decide))
            have tM208_18_4 : M208 18 4 = M199 18 4 := f207 18 4 (fun q => absurd q.2 (by decide))
            have tM208_18_5 : M208 18 5 = M199 18 5 := f207 18 5 (fun q => absurd q.2 (by decide))
            have tM208_18_6 : M208 18 6 = M199 18 6 := f207 18 6 (fun q => absurd q.2 (by decide))
            have hF := hF.wr f207 (by decide) (by decide)
            have hW : WFk M208 := hW.site f207 (by decide)
            refine z_aload_n F dX6_advance_96 rfl (q := 0) rfl ?_
            refine gf_X6_48 F hI gs_18 rfl bd_18_7 dX6_advance_97 (fun v209 ev209 av209 bv209 => ?_)
            have zv209 : 0 = v209 := sf207.symm.trans ev209.symm
            subst zv209
            refine z_iconst F dX6_advance_100 ?_
            refine z_icmp_eq (tgt := 112) F dX6_advance_101 (by decide +kernel) (by omega) (by omega) (fun c210 => by exfalso; omega) (fun c210 => ?_)
            refine z_aload_n F dX6_advance_104 rfl (q := 0) rfl ?_
            refine gf_X6_48 F hI gs_18 rfl bd_18_7 dX6_advance_105 (fun v211 ev211 av211 bv211 => ?_)
            have zv211 : 0 = v211 := sf207.symm.trans ev211.symm
            subst zv211
            refine z_iconst F dX6_advance_108 ?_
            refine z_icmp_ne (tgt := 138) F dX6_advance_109 (by decide +kernel) (by omega) (by omega) (fun c212 => ?_) (fun c212 => by exfalso; omega)
            refine z_aload_n F dX6_advance_138 rfl (q := 0) rfl ?_
            refine gf_X6_48 F hI gs_18 rfl bd_18_7 dX6_advance_139 (fun v213 ev213 av213 bv213 => ?_)
            have zv213 : 0 = v213 := sf207.symm.trans ev213.symm
            subst zv213
            refine z_if_eq (tgt := 241) F dX6_advance_142 (by decide +kernel) (by omega) (fun c214 => ?_) (fun c214 => by exfalso; omega)
            have q215 : u6 = M197 18 1 := eu6.trans (f196 18 1 (fun q => absurd q.2 (by decide))).symm
            have q216 : u6 = M199 18 1 := q215.trans (f198 18 1 (fun q => absurd q.2 (by decide))).symm
            have q217 : u6 = M208 18 1 := q216.trans (f207 18 1 (fun q => absurd q.2 (by decide))).symm
            have q218 : u7 = M208 18 4 := q205.trans (f207 18 4 (fun q => absurd q.2 (by decide))).symm
            have q219 : u8 = M208 18 5 := q202.trans (f207 18 5 (fun q => absurd q.2 (by decide))).symm
            have q220 : u8 = M199 18 6 := sf196.symm.trans (f198 18 6 (fun q => absurd q.2 (by decide))).symm
            have q221 : u8 = M208 18 6 := q220.trans (f207 18 6 (fun q => absurd q.2 (by decide))).symm
            exact hret _ 241 _ ⟨hI, hW⟩ ⟨hF, (by omega)⟩ dX6_advance_241
          · refine z_aload_n F dX6_advance_77 rfl (q := 0) rfl ?_
            refine rf_X6_22 F gs_18 rfl dX6_advance_78 ?_
            refine z_aload_n F dX6_advance_81 rfl (q := 0) rfl ?_
            refine gf_X6_33 F hI gs_18 rfl bd_18_5 dX6_advance_82 (fun v222 ev222 av222 bv222 => ?_)
            have zv222 : u8 = v222 := q202.trans ev222.symm
            subst zv222
            refine z_bald F hI gs_1 (by omega) (by omega) (by decide) bd_1 dX6_advance_85 (fun v223 (ev223 : v223 = M199 1 _) av223 bv223 => ?_)
            have q224 : v184 = M197 1 (u8).toNat := ev184.trans (f196 1 (u8).toNat (fun q => absurd q.1 (by decide))).symm
            have q225 : v184 = M199 1 (u8).toNat := q224.trans (f198 1 (u8).toNat (fun q => absurd q.1 (by decide))).symm
            have zv223 : v184 = v223 := q225.trans ev223.symm
            subst zv223
            refine zs_i (rest := [.ref (ad 18)]) F (kp_X6_sortOf l M199 ⟨hI, hW⟩ v184 (by omega) (by omega)) cs_X6_63 (by decide) (by decide) rfl rfl rfl (Nat.le_of_ble_eq_true rfl) dX6_advance_86 (fun v226 M227 rv226 hI p228 => ?_)
            obtain ⟨hI, hW⟩ := hI
            obtain ⟨⟨av226, bv226⟩, rfl⟩ := p228
            refine z_goto (tgt := 93) F dX6_advance_89 (by decide +kernel) ?_
            refine pf_X6_48 F hI gs_18 rfl bd_18_7 rfl rfl dX6_advance_93 (by omega) (by omega) (fun M230 hI sf229 f229 => ?_)
            have tM230_18_1 : M230 18 1 = M199 18 1 := f229 18 1 (fun q => absurd q.2 (by decide))
            have tM230_18_4 : M230 18 4 = M199 18 4 := f229 18 4 (fun q => absurd q.2 (by decide))
            have tM230_18_5 : M230 18 5 = M199 18 5 := f229 18 5 (fun q => absurd q.2 (by decide))
            have tM230_18_6 : M230 18 6 = M199 18 6 := f229 18 6 (fun q => absurd q.2 (by decide))
            have hF := hF.wr f229 (by decide) (by decide)
            have hW : WFk M230 := hW.site f229 (by decide)
            refine z_aload_n F dX6_advance_96 rfl (q := 0) rfl ?_
            refine gf_X6_48 F hI gs_18 rfl bd_18_7 dX6_advance_97 (fun v231 ev231 av231 bv231 => ?_)
            have zv231 : v226 = v231 := sf229.symm.trans ev231.symm
            subst zv231
            refine z_iconst F dX6_advance_100 ?_
            refine z_icmp_eq (tgt := 112) F dX6_advance_101 (by decide +kernel) (by omega) (by omega) (fun c232 => ?_) (fun c232 => ?_)
            · refine z_aload_n F dX6_advance_112 rfl (q := 0) rfl ?_
              refine z_aload_n F dX6_advance_113 rfl (q := 0) rfl ?_
              refine rf_X6_22 F gs_18 rfl dX6_advance_114 ?_
              refine z_aload_n F dX6_advance_117 rfl (q := 0) rfl ?_
              refine gf_X6_33 F hI gs_18 rfl bd_18_5 dX6_advance_118 (fun v233 ev233 av233 bv233 => ?_)
              have q234 : u8 = M230 18 5 := q202.trans (f229 18 5 (fun q => absurd q.2 (by decide))).symm
              have zv233 : u8 = v233 := q234.trans ev233.symm
              subst zv233
              refine z_bald F hI gs_1 (by omega) (by omega) (by decide) bd_1 dX6_advance_121 (fun v235 (ev235 : v235 = M230 1 _) av235 bv235 => ?_)
              have q236 : v184 = M230 1 (u8).toNat := q225.trans (f229 1 (u8).toNat (fun q => absurd q.1 (by decide))).symm
              have zv235 : v184 = v235 := q236.trans ev235.symm
              subst zv235
              refine pf_X6_60 F hI gs_18 rfl bd_18_8 rfl rfl dX6_advance_122 (by omega) (by omega) (fun M238 hI sf237 f237 => ?_)
              have tM238_18_1 : M238 18 1 = M230 18 1 := f237 18 1 (fun q => absurd q.2 (by decide))
              have tM238_18_4 : M238 18 4 = M230 18 4 := f237 18 4 (fun q => absurd q.2 (by decide))
              have tM238_18_5 : M238 18 5 = M230 18 5 := f237 18 5 (fun q => absurd q.2 (by decide))
              have tM238_18_6 : M238 18 6 = M230 18 6 := f237 18 6 (fun q => absurd q.2 (by decide))
              have hF := hF.wr f237 (by decide) (by decide)
              have hW : WFk M238 := hW.site f237 (by decide)
              refine z_aload_n F dX6_advance_125 rfl (q := 0) rfl ?_
              refine z_dup F dX6_advance_126 rfl ?_
              refine gf_X6_33 F hI gs_18 rfl bd_18_5 dX6_advance_127 (fun v239 ev239 av239 bv239 => ?_)
              have q240 : u8 = M238 18 5 := q234.trans (f237 18 5 (fun q => absurd q.2 (by decide))).symm
              have zv239 : u8 = v239 := q240.trans ev239.symm
              subst zv239
              refine z_iconst F dX6_advance_130 ?_
              refine z_iadd F dX6_advance_131 ?_
              refine z_nm (fun v241 ev241 => ?_)
              refine pf_X6_33 F hI gs_18 rfl bd_18_5 rfl rfl dX6_advance_132 (by omega) (by omega) (fun M243 hI sf242 f242 => ?_)
              have tM243_18_1 : M243 18 1 = M238 18 1 := f242 18 1 (fun q => absurd q.2 (by decide))
              have tM243_18_4 : M243 18 4 = M238 18 4 := f242 18 4 (fun q => absurd q.2 (by decide))
              have tM243_18_6 : M243 18 6 = M238 18 6 := f242 18 6 (fun q => absurd q.2 (by decide))
              have hF := hF.wr f242 (by decide) (by decide)
              have hW : WFk M243 := hW.site f242 (by decide)
              refine z_goto (tgt := 241) F dX6_advance_135 (by decide +kernel) ?_
              have q244 : u6 = M197 18 1 := eu6.trans (f196 18 1 (fun q => absurd q.2 (by decide))).symm
              have q245 : u6 = M199 18 1 := q244.trans (f198 18 1 (fun q => absurd q.2 (by decide))).symm
              have q246 : u6 = M230 18 1 := q245.trans (f229 18 1 (fun q => absurd q.2 (by decide))).symm
              have q247 : u6 = M238 18 1 := q246.trans (f237 18 1 (fun q => absurd q.2 (by decide))).symm
              have q248 : u6 = M243 18 1 := q247.trans (f242 18 1 (fun q => absurd q.2 (by decide))).symm
              have q249 : u7 = M230 18 4 := q205.trans (f229 18 4 (fun q => absurd q.2 (by decide))).symm
              have q250 : u7 = M238 18 4 := q249.trans (f237 18 4 (fun q => absurd q.2 (by decide))).symm
              have q251 : u7 = M243 18 4 := q250.trans (f242 18 4 (fun q => absurd q.2 (by decide))).symm
              have q252 : u8 = M199 18 6 := sf196.symm.trans (f198 18 6 (fun q => absurd q.2 (by decide))).symm
              have q253 : u8 = M230 18 6 := q252.trans (f229 18 6 (fun q => absurd q.2 (by decide))).symm
              have q254 : u8 = M238 18 6 := q253.trans (f237 18 6 (fun q => absurd q.2 (by decide))).symm
              have q255 : u8 = M243 18 6 := q254.trans (f242 18 6 (fun q => absurd q.2 (by decide))).symm
              exact hret _ 241 _ ⟨hI, hW⟩ ⟨hF, (by omega)⟩ dX6_advance_241
            · refine z_aload_n F dX6_advance_104 rfl (q := 0) rfl ?_
              refine gf_X6_48 F hI gs_18 rfl bd_18_7 dX6_advance_105 (fun v256 ev256 av256 bv256 => ?_)
              have zv256 : v226 = v256 := sf229.symm.trans ev256.symm
              subst zv256
              refine z_iconst F dX6_advance_108 ?_
              refine z_icmp_ne (tgt := 138) F dX6_advance_109 (by decide +kernel) (by omega) (by omega) (fun c257 => ?_) (fun c257 => ?_)
              · refine z_aload_n F dX6_advance_138 rfl (q := 0) rfl ?_
                refine gf_X6_48 F hI gs_18 rfl bd_18_7 dX6_advance_139 (fun v258 ev258 av258 bv258 => ?_)
                have zv258 : v226 = v258 := sf229.symm.trans ev258.symm
                subst zv258
                refine z_if_eq (tgt := 241) F dX6_advance_142 (by decide +kernel) (by omega) (fun c259 => by exfalso; omega) (fun c259 => ?_)
                refine z_aload_n F dX6_advance_145 rfl (q := 0) rfl ?_
                refine gf_X6_48 F hI gs_18 rfl bd_18_7 dX6_advance_146 (fun v260 ev260 av260 bv260 => ?_)
                have zv260 : v226 = v260 := sf229.symm.trans ev260.symm
                subst zv260
                refine z_istore_n F dX6_advance_149 rfl (by decide) (ls' := [(1, ii v226), (0, .ref (ad 18))]) rfl ?_
                refine z_loc [1, 0] (ls' := [(0, .ref (ad 18)), (1, ii v226)]) rfl ?_
                have q262 : u6 = M197 18 1 := eu6.trans (f196 18 1 (fun q => absurd q.2 (by decide))).symm
                have q263 : u6 = M199 18 1 := q262.trans (f198 18 1 (fun q => absurd q.2 (by decide))).symm
                have q264 : u6 = M230 18 1 := q263.trans (f229 18 1 (fun q => absurd q.2 (by decide))).symm
                have q265 : u7 = M230 18 4 := q205.trans (f229 18 4 (fun q => absurd q.2 (by decide))).symm
                have q266 : u8 = M230 18 5 := q202.trans (f229 18 5 (fun q => absurd q.2 (by decide))).symm
                have q267 : u8 = M199 18 6 := sf196.symm.trans (f198 18 6 (fun q => absurd q.2 (by decide))).symm
                have q268 : u8 = M230 18 6 := q267.trans (f229 18 6 (fun q => absurd q.2 (by decide))).symm
                suffices key150 : ∀ (n : Nat) (M261 : Mem), Inv M261 → WFk M261 → Fr [18] M M261 → (M261 18 4 = M 18 4) → (M261 18 1 = M 18 1) → (M261 18 6 ≤ M261 18 5 ∧ M261 18 5 ≤ M261 18 4) → 900 - M261 18 5 < (n : Int) → Z D cy ad p l e (RMh 6) s m args below meth c A 2 0 0 Q 150 [(0, .ref (ad 18)), (1, ii v226)] [] M261 from key150 901 M230 hI hW hF (by omega) (by omega) (by omega) (by omega)
                intro n150
                induction n150 with
                | zero => intro M261 hI hW hF i150_0 i150_1 i150_2 hn150; exfalso; omega
                | succ n150 ih150 =>
                  intro M261 hI hW hF i150_0 i150_1 i150_2 hn150
                  obtain ⟨u269, eu269⟩ : ∃ v : Int, v = M261 18 1 := ⟨_, rfl⟩
                  have ku269 : (-2147483648) ≤ u269 ∧ u269 ≤ 2147483647 := by have := hI.at (show Bd 18 1 = (-2147483648, 2147483647) from rfl); omega
                  obtain ⟨u270, eu270⟩ : ∃ v : Int, v = M261 18 4 := ⟨_, rfl⟩
                  have ku270 : 0 ≤ u270 ∧ u270 ≤ 900 := by have := hI.at (show Bd 18 4 = (0, 900) from rfl); omega
                  obtain ⟨u271, eu271⟩ : ∃ v : Int, v = M261 18 5 := ⟨_, rfl⟩
                  have ku271 : 0 ≤ u271 ∧ u271 ≤ 900 := by have := hI.at (show Bd 18 5 = (0, 900) from rfl); omega
                  obtain ⟨u272, eu272⟩ : ∃ v : Int, v = M261 18 6 := ⟨_, rfl⟩
                  have ku272 : 0 ≤ u272 ∧ u272 ≤ 900 := by have := hI.at (show Bd 18 6 = (0, 900) from rfl); omega
                  refine z_aload_n F dX6_advance_150 rfl (q := 0) rfl ?_
                  refine gf_X6_33 F hI gs_18 rfl bd_18_5 dX6_advance_151 (fun v273 ev273 av273 bv273 => ?_)
                  have zv273 : u271 = v273 := eu271.trans ev273.symm
                  subst zv273
                  refine z_aload_n F dX6_advance_154 rfl (q := 0) rfl ?_
                  refine gf_X6_30 F hI gs_18 rfl bd_18_4 dX6_advance_155 (fun v274 ev274 av274 bv274 => ?_)
                  have zv274 : u270 = v274 := eu270.trans ev274.symm
                  subst zv274
                  refine z_icmp_ge (tgt := 214) F dX6_advance_158 (by decide +kernel) (by omega) (by omega) (fun c275 => ?_) (fun c275 => ?_)
                  · refine z_aload_n F dX6_advance_214 rfl (q := 0) rfl ?_
                    refine z_iload_n F dX6_advance_215 rfl (q := 1) rfl ?_
                    refine z_iconst F dX6_advance_216 ?_
                    refine z_icmp_ne (tgt := 237) F dX6_advance_217 (by decide +kernel) (by omega) (by omega) (fun c276 => ?_) (fun c276 => ?_)
                    · refine z_iload_n F dX6_advance_237 rfl (q := 1) rfl ?_
                      refine pf_X6_48 F hI gs_18 rfl bd_18_7 rfl rfl dX6_advance_238 (by omega) (by omega) (fun M278 hI sf277 f277 => ?_)
                      have tM278_18_1 : M278 18 1 = M261 18 1 := f277 18 1 (fun q => absurd q.2 (by decide))
                      have tM278_18_4 : M278 18 4 = M261 18 4 := f277 18 4 (fun q => absurd q.2 (by decide))
                      have tM278_18_5 : M278 18 5 = M261 18 5 := f277 18 5 (fun q => absurd q.2 (by decide))
                      have tM278_18_6 : M278 18 6 = M261 18 6 := f277 18 6 (fun q => absurd q.2 (by decide))
                      have hF := hF.wr f277 (by decide) (by decide)
                      have hW : WFk M278 := hW.site f277 (by decide)
                      have q279 : u269 = M278 18 1 := eu269.trans (f277 18 1 (fun q => absurd q.2 (by decide))).symm
                      have q280 : u270 = M278 18 4 := eu270.trans (f277 18 4 (fun q => absurd q.2 (by decide))).symm
                      have q281 : u271 = M278 18 5 := eu271.trans (f277 18 5 (fun q => absurd q.2 (by decide))).symm
                      have q282 : u272 = M278 18 6 := eu272.trans (f277 18 6 (fun q => absurd q.2 (by decide))).symm
                      exact hret _ 241 _ ⟨hI, hW⟩ ⟨hF, (by omega)⟩ dX6_advance_241
                    · refine z_aload_n F dX6_advance_220 rfl (q := 0) rfl ?_
                      refine gf_X6_33 F hI gs_18 rfl bd_18_5 dX6_advance_221 (fun v283 ev283 av283 bv283 => ?_)
                      have zv283 : u271 = v283 := eu271.trans ev283.symm
                      subst zv283
                      refine z_aload_n F dX6_advance_224 rfl (q := 0) rfl ?_
                      refine gf_X6_57 F hI gs_18 rfl bd_18_6 dX6_advance_225 (fun v284 ev284 av284 bv284 => ?_)
                      have zv284 : u272 = v284 := eu272.trans ev284.symm
                      subst zv284
                      refine z_isub F dX6_advance_228 ?_
                      refine z_iconst F dX6_advance_229 ?_
                      refine z_icmp_le (tgt := 237) F dX6_advance_230 (by decide +kernel) (by omega) (by omega) (fun c285 => ?_) (fun c285 => ?_)
                      · refine z_iload_n F dX6_advance_237 rfl (q := 1) rfl ?_
                        refine pf_X6_48 F hI gs_18 rfl bd_18_7 rfl rfl dX6_advance_238 (by omega) (by omega) (fun M287 hI sf286 f286 => ?_)
                        have tM287_18_1 : M287 18 1 = M261 18 1 := f286 18 1 (fun q => absurd q.2 (by decide))
                        have tM287_18_4 : M287 18 4 = M261 18 4 := f286 18 4 (fun q => absurd q.2 (by decide))
                        have tM287_18_5 : M287 18 5 = M261 18 5 := f286 18 5 (fun q => absurd q.2 (by decide))
                        have tM287_18_6 : M287 18 6 = M261 18 6 := f286 18 6 (fun q => absurd q.2 (by decide))
                        have hF := hF.wr f286 (by decide) (by decide)
                        have hW : WFk M287 := hW.site f286 (by decide)
                        have q288 : u269 = M287 18 1 := eu269.trans (f286 18 1 (fun q => absurd q.2 (by decide))).symm
                        have q289 : u270 = M287 18 4 := eu270.trans (f286 18 4 (fun q => absurd q.2 (by decide))).symm
                        have q290 : u271 = M287 18 5 := eu271.trans (f286 18 5 (fun q => absurd q.2 (by decide))).symm
                        have q291 : u272 = M287 18 6 := eu272.trans (f286 18 6 (fun q => absurd q.2 (by decide))).symm
                        exact hret _ 241 _ ⟨hI, hW⟩ ⟨hF, (by omega)⟩ dX6_advance_241
                      · refine z_iconst F dX6_advance_233 ?_
                        refine z_goto (tgt := 238) F dX6_advance_234 (by decide +kernel) ?_
                        refine pf_X6_48 F hI gs_18 rfl bd_18_7 rfl rfl dX6_advance_238 (by omega) (by omega) (fun M293 hI sf292 f292 => ?_)
                        have tM293_18_1 : M293 18 1 = M261 18 1 := f292 18 1 (fun q => absurd q.2 (by decide))
                        have tM293_18_4 : M293 18 4 = M261 18 4 := f292 18 4 (fun q => absurd q.2 (by decide))
                        have tM293_18_5 : M293 18 5 = M261 18 5 := f292 18 5 (fun q => absurd q.2 (by decide))
                        have tM293_18_6 : M293 18 6 = M261 18 6 := f292 18 6 (fun q => absurd q.2 (by decide))
                        have hF := hF.wr f292 (by decide) (by decide)
                        have hW : WFk M293 := hW.site f292 (by decide)
                        have q294 : u269 = M293 18 1 := eu269.trans (f292 18 1 (fun q => absurd q.2 (by decide))).symm
                        have q295 : u270 = M293 18 4 := eu270.trans (f292 18 4 (fun q => absurd q.2 (by decide))).symm
                        have q296 : u271 = M293 18 5 := eu271.trans (f292 18 5 (fun q => absurd q.2 (by decide))).symm
                        have q297 : u272 = M293 18 6 := eu272.trans (f292 18 6 (fun q => absurd q.2 (by decide))).symm
                        exact hret _ 241 _ ⟨hI, hW⟩ ⟨hF, (by omega)⟩ dX6_advance_241
                  · refine z_aload_n F dX6_advance_161 rfl (q := 0) rfl ?_
                    refine rf_X6_22 F gs_18 rfl dX6_advance_162 ?_
                    refine z_aload_n F dX6_advance_165 rfl (q := 0) rfl ?_
                    refine gf_X6_33 F hI gs_18 rfl bd_18_5 dX6_advance_166 (fun v298 ev298 av298 bv298 => ?_)
                    have zv298 : u271 = v298 := eu271.trans ev298.symm
                    subst zv298
                    refine z_bald F hI gs_1 (by omega) (by omega) (by decide) bd_1 dX6_advance_169 (fun v299 (ev299 : v299 = M261 1 _) av299 bv299 => ?_)
                    refine zs_i (rest := []) F (kp_X6_sortOf l M261 ⟨hI, hW⟩ v299 (by omega) (by omega)) cs_X6_63 (by decide) (by decide) rfl rfl rfl (Nat.le_of_ble_eq_true rfl) dX6_advance_170 (fun v300 M301 rv300 hI p302 => ?_)
                    obtain ⟨hI, hW⟩ := hI
                    obtain ⟨⟨av300, bv300⟩, rfl⟩ := p302
                    refine z_iload_n F dX6_advance_173 rfl (q := 1) rfl ?_
                    refine z_icmp_ne (tgt := 214) F dX6_advance_174 (by decide +kernel) (by omega) (by omega) (fun c303 => ?_) (fun c303 => ?_)
                    · refine z_aload_n F dX6_advance_214 rfl (q := 0) rfl ?_
                      refine z_iload_n F dX6_advance_215 rfl (q := 1) rfl ?_
                      refine z_iconst F dX6_advance_216 ?_
                      refine z_icmp_ne (tgt := 237) F dX6_advance_217 (by decide +kernel) (by omega) (by omega) (fun c304 => ?_) (fun c304 => ?_)
                      · refine z_iload_n F dX6_advance_237 rfl (q := 1) rfl ?_
                        refine pf_X6_48 F hI gs_18 rfl bd_18_7 rfl rfl dX6_advance_238 (by omega) (by omega) (fun M306 hI sf305 f305 => ?_)
                        have tM306_18_1 : M306 18 1 = M261 18 1 := f305 18 1 (fun q => absurd q.2 (by decide))
                        have tM306_18_4 : M306 18 4 = M261 18 4 := f305 18 4 (fun q => absurd q.2 (by decide))
                        have tM306_18_5 : M306 18 5 = M261 18 5 := f305 18 5 (fun q => absurd q.2 (by decide))
                        have tM306_18_6 : M306 18 6 = M261 18 6 := f305 18 6 (fun q => absurd q.2 (by decide))
                        have hF := hF.wr f305 (by decide) (by decide)
                        have hW : WFk M306 := hW.site f305 (by decide)
                        have q307 : u269 = M306 18 1 := eu269.trans (f305 18 1 (fun q => absurd q.2 (by decide))).symm
                        have q308 : u270 = M306 18 4 := eu270.trans (f305 18 4 (fun q => absurd q.2 (by decide))).symm
                        have q309 : u271 = M306 18 5 := eu271.trans (f305 18 5 (fun q => absurd q.2 (by decide))).symm
                        have q310 : u272 = M306 18 6 := eu272.trans (f305 18 6 (fun q => absurd q.2 (by decide))).symm
                        exact hret _ 241 _ ⟨hI, hW⟩ ⟨hF, (by omega)⟩ dX6_advance_241
                      · refine z_aload_n F dX6_advance_220 rfl (q := 0) rfl ?_
                        refine gf_X6_33 F hI gs_18 rfl bd_18_5 dX6_advance_221 (fun v311 ev311 av311 bv311 => ?_)
                        have zv311 : u271 = v311 := eu271.trans ev311.symm
                        subst zv311
                        refine z_aload_n F dX6_advance_224 rfl (q := 0) rfl ?_
                        refine gf_X6_57 F hI gs_18 rfl bd_18_6 dX6_advance_225 (fun v312 ev312 av312 bv312 => ?_)
                        have zv312 : u272 = v312 := eu272.trans ev312.symm
                        subst zv312
                        refine z_isub F dX6_advance_228 ?_
                        refine z_iconst F dX6_advance_229 ?_
                        refine z_icmp_le (tgt := 237) F dX6_advance_230 (by decide +kernel) (by omega) (by omega) (fun c313 => ?_) (fun c313 => ?_)
                        · refine z_iload_n F dX6_advance_237 rfl (q := 1) rfl ?_
                          refine pf_X6_48 F hI gs_18 rfl bd_18_7 rfl rfl dX6_advance_238 (by omega) (by omega) (fun M315 hI sf314 f314 => ?_)
                          have tM315_18_1 : M315 18 1 = M261 18 1 := f314 18 1 (fun q => absurd q.2 (by decide))
                          have tM315_18_4 : M315 18 4 = M261 18 4 := f314 18 4 (fun q => absurd q.2 (by decide))
                          have tM315_18_5 : M315 18 5 = M261 18 5 := f314 18 5 (fun q => absurd q.2 (by decide))
                          have tM315_18_6 : M315 18 6 = M261 18 6 := f314 18 6 (fun q => absurd q.2 (by decide))
                          have hF := hF.wr f314 (by decide) (by decide)
                          have hW : WFk M315 := hW.site f314 (by decide)
                          have q316 : u269 = M315 18 1 := eu269.trans (f314 18 1 (fun q => absurd q.2 (by decide))).symm
                          have q317 : u270 = M315 18 4 := eu270.trans (f314 18 4 (fun q => absurd q.2 (by decide))).symm
                          have q318 : u271 = M315 18 5 := eu271.trans (f314 18 5 (fun q => absurd q.2 (by decide))).symm
                          have q319 : u272 = M315 18 6 := eu272.trans (f314 18 6 (fun q => absurd q.2 (by decide))).symm
                          exact hret _ 241 _ ⟨hI, hW⟩ ⟨hF, (by omega)⟩ dX6_advance_241
                        · refine z_iconst F dX6_advance_233 ?_
                          refine z_goto (tgt := 238) F dX6_advance_234 (by decide +kernel) ?_
                          refine pf_X6_48 F hI gs_18 rfl bd_18_7 rfl rfl dX6_advance_238 (by omega) (by omega) (fun M321 hI sf320 f320 => ?_)
                          have tM321_18_1 : M321 18 1 = M261 18 1 := f320 18 1 (fun q => absurd q.2 (by decide))
                          have tM321_18_4 : M321 18 4 = M261 18 4 := f320 18 4 (fun q => absurd q.2 (by decide))
                          have tM321_18_5 : M321 18 5 = M261 18 5 := f320 18 5 (fun q => absurd q.2 (by decide))
                          have tM321_18_6 : M321 18 6 = M261 18 6 := f320 18 6 (fun q => absurd q.2 (by decide))
                          have hF := hF.wr f320 (by decide) (by decide)
                          have hW : WFk M321 := hW.site f320 (by decide)
                          have q322 : u269 = M321 18 1 := eu269.trans (f320 18 1 (fun q => absurd q.2 (by decide))).symm
                          have q323 : u270 = M321 18 4 := eu270.trans (f320 18 4 (fun q => absurd q.2 (by decide))).symm
                          have q324 : u271 = M321 18 5 := eu271.trans (f320 18 5 (fun q => absurd q.2 (by decide))).symm
                          have q325 : u272 = M321 18 6 := eu272.trans (f320 18 6 (fun q => absurd q.2 (by decide))).symm
                          exact hret _ 241 _ ⟨hI, hW⟩ ⟨hF, (by omega)⟩ dX6_advance_241
                    · refine z_aload_n F dX6_advance_177 rfl (q := 0) rfl ?_
                      refine z_bipush F dX6_advance_178 (by decide +kernel) ?_
                      refine z_aload_n F dX6_advance_180 rfl (q := 0) rfl ?_
                      refine gf_X6_60 F hI gs_18 rfl bd_18_8 dX6_advance_181 (fun v326 ev326 av326 bv326 => ?_)
                      refine z_imul F dX6_advance_184 ?_
                      refine z_wrap (fun v327 rv327 wv327 => ?_)
                      refine z_aload_n F dX6_advance_185 rfl (q := 0) rfl ?_
                      refine rf_X6_22 F gs_18 rfl dX6_advance_186 ?_
                      refine z_aload_n F dX6_advance_189 rfl (q := 0) rfl ?_
                      refine gf_X6_33 F hI gs_18 rfl bd_18_5 dX6_advance_190 (fun v328 ev328 av328 bv328 => ?_)
                      have zv328 : u271 = v328 := eu271.trans ev328.symm
                      subst zv328
                      refine z_bald F hI gs_1 (by omega) (by omega) (by decide) bd_1 dX6_advance_193 (fun v329 (ev329 : v329 = M261 1 _) av329 bv329 => ?_)
                      have zv329 : v299 = v329 := ev299.trans ev329.symm
                      subst zv329
                      refine z_iadd F dX6_advance_194 ?_
                      refine z_wrap (fun v330 rv330 wv330 => ?_)
                      refine z_bipush F dX6_advance_195 (by decide +kernel) ?_
                      refine z_isub F dX6_advance_197 ?_
                      refine z_wrap (fun v331 rv331 wv331 => ?_)
                      refine pf_X6_60 F hI gs_18 rfl bd_18_8 rfl rfl dX6_advance_198 (by omega) (by omega) (fun M333 hI sf332 f332 => ?_)
                      have tM333_18_1 : M333 18 1 = M261 18 1 := f332 18 1 (fun q => absurd q.2 (by decide))
                      have tM333_18_4 : M333 18 4 = M261 18 4 := f332 18 4 (fun q => absurd q.2 (by decide))
                      have tM333_18_5 : M333 18 5 = M261 18 5 := f332 18 5 (fun q => absurd q.2 (by decide))
                      have tM333_18_6 : M333 18 6 = M261 18 6 := f332 18 6 (fun q => absurd q.2 (by decide))
                      have hF := hF.wr f332 (by decide) (by decide)
                      have hW : WFk M333 := hW.site f332 (by decide)
                      refine z_aload_n F dX6_advance_201 rfl (q := 0) rfl ?_
                      refine z_dup F dX6_advance_202 rfl ?_
                      refine gf_X6_33 F hI gs_18 rfl bd_18_5 dX6_advance_203 (fun v334 ev334 av334 bv334 => ?_)
                      have q335 : u271 = M333 18 5 := eu271.trans (f332 18 5 (fun q => absurd q.2 (by decide))).symm
                      have zv334 : u271 = v334 := q335.trans ev334.symm
                      subst zv334
                      refine z_iconst F dX6_advance_206 ?_
                      refine z_iadd F dX6_advance_207 ?_
                      refine z_nm (fun v336 ev336 => ?_)
                      refine pf_X6_33 F hI gs_18 rfl bd_18_5 rfl rfl dX6_advance_208 (by omega) (by omega) (fun M338 hI sf337 f337 => ?_)
                      have tM338_18_1 : M338 18 1 = M333 18 1 := f337 18 1 (fun q => absurd q.2 (by decide))
                      have tM338_18_4 : M338 18 4 = M333 18 4 := f337 18 4 (fun q => absurd q.2 (by decide))
                      have tM338_18_6 : M338 18 6 = M333 18 6 := f337 18 6 (fun q => absurd q.2 (by decide))
                      have hF := hF.wr f337 (by decide) (by decide)
                      have hW : WFk M338 := hW.site f337 (by decide)
                      refine z_goto (tgt := 150) F dX6_advance_211 (by decide +kernel) ?_
                      refine z_loc [0, 1] (ls' := [(0, .ref (ad 18)), (1, ii v226)]) rfl ?_
                      have q339 : u269 = M333 18 1 := eu269.trans (f332 18 1 (fun q => absurd q.2 (by decide))).symm
                      have q340 : u269 = M338 18 1 := q339.trans (f337 18 1 (fun q => absurd q.2 (by decide))).symm
                      have q341 : u270 = M333 18 4 := eu270.trans (f332 18 4 (fun q => absurd q.2 (by decide))).symm
                      have q342 : u270 = M338 18 4 := q341.trans (f337 18 4 (fun q => absurd q.2 (by decide))).symm
                      have q343 : u272 = M333 18 6 := eu272.trans (f332 18 6 (fun q => absurd q.2 (by decide))).symm
                      have q344 : u272 = M338 18 6 := q343.trans (f337 18 6 (fun q => absurd q.2 (by decide))).symm
                      exact ih150 M338 hI hW hF (by omega) (by omega) (by omega) (by omega)
              · refine z_aload_n F dX6_advance_112 rfl (q := 0) rfl ?_
                refine z_aload_n F dX6_advance_113 rfl (q := 0) rfl ?_
                refine rf_X6_22 F gs_18 rfl dX6_advance_114 ?_
                refine z_aload_n F dX6_advance_117 rfl (q := 0) rfl ?_
                refine gf_X6_33 F hI gs_18 rfl bd_18_5 dX6_advance_118 (fun v345 ev345 av345 bv345 => ?_)
                have q346 : u8 = M230 18 5 := q202.trans (f229 18 5 (fun q => absurd q.2 (by decide))).symm
                have zv345 : u8 = v345 := q346.trans ev345.symm
                subst zv345
                refine z_bald F hI gs_1 (by omega) (by omega) (by decide) bd_1 dX6_advance_121 (fun v347 (ev347 : v347 = M230 1 _) av347 bv347 => ?_)
                have q348 : v184 = M230 1 (u8).toNat := q225.trans (f229 1 (u8).toNat (fun q => absurd q.1 (by decide))).symm
                have zv347 : v184 = v347 := q348.trans ev347.symm
                subst zv347
                refine pf_X6_60 F hI gs_18 rfl bd_18_8 rfl rfl dX6_advance_122 (by omega) (by omega) (fun M350 hI sf349 f349 => ?_)
                have tM350_18_1 : M350 18 1 = M230 18 1 := f349 18 1 (fun q => absurd q.2 (by decide))
                have tM350_18_4 : M350 18 4 = M230 18 4 := f349 18 4 (fun q => absurd q.2 (by decide))
                have tM350_18_5 : M350 18 5 = M230 18 5 := f349 18 5 (fun q => absurd q.2 (by decide))
                have tM350_18_6 : M350 18 6 = M230 18 6 := f349 18 6 (fun q => absurd q.2 (by decide))
                have hF := hF.wr f349 (by decide) (by decide)
                have hW : WFk M350 := hW.site f349 (by decide)
                refine z_aload_n F dX6_advance_125 rfl (q := 0) rfl ?_
                refine z_dup F dX6_advance_126 rfl ?_
                refine gf_X6_33 F hI gs_18 rfl bd_18_5 dX6_advance_127 (fun v351 ev351 av351 bv351 => ?_)
                have q352 : u8 = M350 18 5 := q346.trans (f349 18 5 (fun q => absurd q.2 (by decide))).symm
                have zv351 : u8 = v351 := q352.trans ev351.symm
                subst zv351
                refine z_iconst F dX6_advance_130 ?_
                refine z_iadd F dX6_advance_131 ?_
                refine z_nm (fun v353 ev353 => ?_)
                refine pf_X6_33 F hI gs_18 rfl bd_18_5 rfl rfl dX6_advance_132 (by omega) (by omega) (fun M355 hI sf354 f354 => ?_)
                have tM355_18_1 : M355 18 1 = M350 18 1 := f354 18 1 (fun q => absurd q.2 (by decide))
                have tM355_18_4 : M355 18 4 = M350 18 4 := f354 18 4 (fun q => absurd q.2 (by decide))
                have tM355_18_6 : M355 18 6 = M350 18 6 := f354 18 6 (fun q => absurd q.2 (by decide))
                have hF := hF.wr f354 (by decide) (by decide)
                have hW : WFk M355 := hW.site f354 (by decide)
                refine z_goto (tgt := 241) F dX6_advance_135 (by decide +kernel) ?_
                have q356 : u6 = M197 18 1 := eu6.trans (f196 18 1 (fun q => absurd q.2 (by decide))).symm
                have q357 : u6 = M199 18 1 := q356.trans (f198 18 1 (fun q => absurd q.2 (by decide))).symm
                have q358 : u6 = M230 18 1 := q357.trans (f229 18 1 (fun q => absurd q.2 (by decide))).symm
                have q359 : u6 = M350 18 1 := q358.trans (f349 18 1 (fun q => absurd q.2 (by decide))).symm
                have q360 : u6 = M355 18 1 := q359.trans (f354 18 1 (fun q => absurd q.2 (by decide))).symm
                have q361 : u7 = M230 18 4 := q205.trans (f229 18 4 (fun q => absurd q.2 (by decide))).symm
                have q362 : u7 = M350 18 4 := q361.trans (f349 18 4 (fun q => absurd q.2 (by decide))).symm
                have q363 : u7 = M355 18 4 := q362.trans (f354 18 4 (fun q => absurd q.2 (by decide))).symm
                have q364 : u8 = M199 18 6 := sf196.symm.trans (f198 18 6 (fun q => absurd q.2 (by decide))).symm
                have q365 : u8 = M230 18 6 := q364.trans (f229 18 6 (fun q => absurd q.2 (by decide))).symm
                have q366 : u8 = M350 18 6 := q365.trans (f349 18 6 (fun q => absurd q.2 (by decide))).symm
                have q367 : u8 = M355 18 6 := q366.trans (f354 18 6 (fun q => absurd q.2 (by decide))).symm
                exact hret _ 241 _ ⟨hI, hW⟩ ⟨hF, (by omega)⟩ dX6_advance_241
        · refine z_aload_n F dX6_advance_39 rfl (q := 0) rfl ?_
          refine z_dup F dX6_advance_40 rfl ?_
          refine gf_X6_33 F hI gs_18 rfl bd_18_5 dX6_advance_41 (fun v368 ev368 av368 bv368 => ?_)
          have zv368 : u8 = v368 := eu8.trans ev368.symm
          subst zv368
          refine z_iconst F dX6_advance_44 ?_
          refine z_iadd F dX6_advance_45 ?_
          refine z_nm (fun v369 ev369 => ?_)
          refine pf_X6_33 F hI gs_18 rfl bd_18_5 rfl rfl dX6_advance_46 (by omega) (by omega) (fun M371 hI sf370 f370 => ?_)
          have tM371_18_1 : M371 18 1 = M5 18 1 := f370 18 1 (fun q => absurd q.2 (by decide))
          have tM371_18_4 : M371 18 4 = M5 18 4 := f370 18 4 (fun q => absurd q.2 (by decide))
          have tM371_18_6 : M371 18 6 = M5 18 6 := f370 18 6 (fun q => absurd q.2 (by decide))
          have hF := hF.wr f370 (by decide) (by decide)
          have hW : WFk M371 := hW.site f370 (by decide)
          refine z_goto (tgt := 0) F dX6_advance_49 (by decide +kernel) ?_
          refine z_loc [0] (ls' := [(0, .ref (ad 18))]) rfl ?_
          have q372 : u6 = M371 18 1 := eu6.trans (f370 18 1 (fun q => absurd q.2 (by decide))).symm
          have q373 : u7 = M371 18 4 := eu7.trans (f370 18 4 (fun q => absurd q.2 (by decide))).symm
          exact ih0 M371 hI hW hF (by omega) (by omega) (by omega) (by omega)
set_option maxHeartbeats 4000000 in
set_option maxRecDepth 4000 in
theorem kp_X6_isWord_18_1028 (l : Launch) (M : Mem) (hJ : Iw M) (hp0 : M 18 6 ≤ M 18 5 ∧ M 18 5 ≤ M 18 4) : CI l yX6_isWord cX6_isWord 3 (some .boolean) 5 (fun ad => [.ref (ad 18), .ref (ad 1028)]) M (fun z M' => (0 ≤ z ∧ z ≤ 1) ∧ M = M') := by
  obtain ⟨hI, hW⟩ := hJ
  refine en_z (by decide +kernel) (fun ad => by exact Nat.le_of_ble_eq_true rfl) (fun D cy ad A p e s m args below meth c Q F hret => ?_)
  refine z_eq (ls' := [(0, .ref (ad 18)), (1, .ref (ad 1028))]) rfl rfl rfl ?_
  obtain ⟨u1, eu1⟩ : ∃ v : Int, v = M 18 1 := ⟨_, rfl⟩
  have ku1 : (-2147483648) ≤ u1 ∧ u1 ≤ 2147483647 := by have := hI.at (show Bd 18 1 = (-2147483648, 2147483647) from rfl); omega
  obtain ⟨u2, eu2⟩ : ∃ v : Int, v = M 18 4 := ⟨_, rfl⟩
  have ku2 : 0 ≤ u2 ∧ u2 ≤ 900 := by have := hI.at (show Bd 18 4 = (0, 900) from rfl); omega
  obtain ⟨u3, eu3⟩ : ∃ v : Int, v = M 18 5 := ⟨_, rfl⟩
  have ku3 : 0 ≤ u3 ∧ u3 ≤ 900 := by have := hI.at (show Bd 18 5 = (0, 900) from rfl); omega
  obtain ⟨u4, eu4⟩ : ∃ v : Int, v = M 18 6 := ⟨_, rfl⟩
  have ku4 : 0 ≤ u4 ∧ u4 ≤ 900 := by have := hI.at (show Bd 18 6 = (0, 900) from rfl); omega
  refine z_aload_n F dX6_isWord_0 rfl (q := 0) rfl ?_
  refine gf_X6_36 F hI gs_18 rfl bd_18_1 dX6_isWord_1 (fun v5 ev5 av5 bv5 => ?_)
  have zv5 : u1 = v5 := eu1.trans ev5.symm
  subst zv5
  refine z_if_ne (tgt := 31) F dX6_isWord_4 (by decide +kernel) (by omega) (fun c6 => ?_) (fun c6 => ?_)
  · refine z_iconst F dX6_isWord_31 ?_
    exact hret _ _ 32 _ ⟨by omega, by omega⟩ ⟨hI, hW⟩ ⟨⟨by omega, by omega⟩, rfl⟩ dX6_isWord_32
  · refine z_aload_n F dX6_isWord_7 rfl (q := 0) rfl ?_
    refine gf_X6_48 F hI gs_18 rfl bd_18_7 dX6_isWord_8 (fun v7 ev7 av7 bv7 => ?_)
    refine z_iconst F dX6_isWord_11 ?_
    refine z_icmp_ne (tgt := 31) F dX6_isWord_12 (by decide +kernel) (by omega) (by omega) (fun c8 => ?_) (fun c8 => ?_)
    · refine z_iconst F dX6_isWord_31 ?_
      exact hret _ _ 32 _ ⟨by omega, by omega⟩ ⟨hI, hW⟩ ⟨⟨by omega, by omega⟩, rfl⟩ dX6_isWord_32
    · refine z_aload_n F dX6_isWord_15 rfl (q := 0) rfl ?_
      refine gf_X6_33 F hI gs_18 rfl bd_18_5 dX6_isWord_16 (fun v9 ev9 av9 bv9 => ?_)
      have zv9 : u3 = v9 := eu3.trans ev9.symm
      subst zv9
      refine z_aload_n F dX6_isWord_19 rfl (q := 0) rfl ?_
      refine gf_X6_57 F hI gs_18 rfl bd_18_6 dX6_isWord_20 (fun v10 ev10 av10 bv10 => ?_)
      have zv10 : u4 = v10 := eu4.trans ev10.symm
      subst zv10
      refine z_isub F dX6_isWord_23 ?_
      refine z_aload_n F dX6_isWord_24 rfl (q := 1) rfl ?_
      refine zvs_i (i := 28) (rest := [ii (u3 - u4)]) F (kS_len l M ⟨hI, hW⟩ 28 (by decide)) cs_X6_75 (by decide) (by decide) (by decide) rfl rfl rfl (Nat.le_of_ble_eq_true rfl) dX6_isWord_25 (fun v11 M9 rv11 hI9 pv11 => ?_)
      obtain ⟨ev11, rfl⟩ := pv11
      obtain rfl : v11 = 2 := ev11.trans (show ((sbyt.getD 28 []).length : Int) = 2 from by decide)
      clear hI9
      refine z_icmp_eq (tgt := 33) F dX6_isWord_28 (by decide +kernel) (by omega) (by omega) (fun c12 => ?_) (fun c12 => ?_)
      · refine z_iconst F dX6_isWord_33 ?_
        refine z_istore_n F dX6_isWord_34 rfl (by decide) (ls' := [(2, ii 0), (0, .ref (ad 18)), (1, .ref (ad 1028))]) rfl ?_
        refine z_loc [1, 2, 0] (ls' := [(0, .ref (ad 18)), (1, .ref (ad 1028)), (2, ii 0)]) rfl ?_
        suffices key35 : ∀ (n : Nat) (y14 : Int), 0 ≤ y14 → y14 ≤ 2 → 2 - y14 < (n : Int) → Z D cy ad p l e (RMh 5) s m args below meth c A 3 0 0 Q 35 [(0, .ref (ad 18)), (1, .ref (ad 1028)), (2, ii y14)] [] M from key35 3 0 (by omega) (by omega) (by omega)
        intro n35
        induction n35 with
        | zero => intro y14 ay14 by14 hn35; exfalso; omega
        | succ n35 ih35 =>
          intro y14 ay14 by14 hn35
          refine z_iload_n F dX6_isWord_35 rfl (q := 2) rfl ?_
          refine z_aload_n F dX6_isWord_36 rfl (q := 1) rfl ?_
          refine zvs_i (i := 28) (rest := [ii y14]) F (kS_len l M ⟨hI, hW⟩ 28 (by decide)) cs_X6_75 (by decide) (by decide) (by decide) rfl rfl rfl (Nat.le_of_ble_eq_true rfl) dX6_isWord_37 (fun v15 M9 rv15 hI9 pv15 => ?_)
          obtain ⟨ev15, rfl⟩ := pv15
          obtain rfl : v15 = 2 := ev15.trans (show ((sbyt.getD 28 []).length : Int) = 2 from by decide)
          clear hI9
          refine z_icmp_ge (tgt := 70) F dX6_isWord_40 (by decide +kernel) (by omega) (by omega) (fun c16 => ?_) (fun c16 => ?_)
          · refine z_iconst F dX6_isWord_70 ?_
            exact hret _ _ 71 _ ⟨by omega, by omega⟩ ⟨hI, hW⟩ ⟨⟨by omega, by omega⟩, rfl⟩ dX6_isWord_71
          · refine z_aload_n F dX6_isWord_43 rfl (q := 0) rfl ?_
            refine rf_X6_22 F gs_18 rfl dX6_isWord_44 ?_
            refine z_aload_n F dX6_isWord_47 rfl (q := 0) rfl ?_
            refine gf_X6_57 F hI gs_18 rfl bd_18_6 dX6_isWord_48 (fun v17 ev17 av17 bv17 => ?_)
            have zv17 : u4 = v17 := eu4.trans ev17.symm
            subst zv17
            refine z_iload_n F dX6_isWord_51 rfl (q := 2) rfl ?_
            refine z_iadd F dX6_isWord_52 ?_
            have k18 : 0 ≤ (u4 + y14) ∧ (u4 + y14) ≤ 899 := by omega
            refine z_bald F hI gs_1 (by omega) (by omega) (by decide) bd_1 dX6_isWord_53 (fun v19 (ev19 : v19 = M 1 _) av19 bv19 => ?_)
            refine z_aload_n F dX6_isWord_54 rfl (q := 1) rfl ?_
            refine z_iload_n F dX6_isWord_55 rfl (q := 2) rfl ?_
            refine zvs_i (i := 28) (rest := [ii v19]) F (kS_chr l M ⟨hI, hW⟩ 28 (by decide) y14 (by omega) (show y14 < ((sbyt.getD 28 []).length : Int) from by rw [show ((sbyt.getD 28 []).length : Int) = 2 from by decide]; omega)) cs_X6_78 (by decide) (by decide) (by decide) rfl rfl rfl (Nat.le_of_ble_eq_true rfl) dX6_isWord_56 (fun v20 M9 rv20 hI9 pv20 => ?_)
            obtain ⟨⟨av20, bv20⟩, rfl⟩ := pv20
            clear hI9
            refine z_icmp_eq (tgt := 64) F dX6_isWord_59 (by decide +kernel) (by omega) (by omega) (fun c21 => ?_) (fun c21 => ?_)
            · refine z_iincN F dX6_isWord_64 (q := 2) rfl (by decide) (fun v22 ev22 => ?_)
              refine z_eq (ls' := [(2, ii v22), (0, .ref (ad 18)), (1, .ref (ad 1028))]) rfl rfl rfl ?_
              refine z_goto (tgt := 35) F dX6_isWord_67 (by decide +kernel) ?_
              refine z_loc [1, 2, 0] (ls' := [(0, .ref (ad 18)), (1, .ref (ad 1028)), (2, ii v22)]) rfl ?_
              exact ih35 v22 (by omega) (by omega) (by omega)
            · refine z_iconst F dX6_isWord_62 ?_
              exact hret _ _ 63 _ ⟨by omega, by omega⟩ ⟨hI, hW⟩ ⟨⟨by omega, by omega⟩, rfl⟩ dX6_isWord_63
      · refine z_iconst F dX6_isWord_31 ?_
        exact hret _ _ 32 _ ⟨by omega, by omega⟩ ⟨hI, hW⟩ ⟨⟨by omega, by omega⟩, rfl⟩ dX6_isWord_32
set_option maxHeartbeats 4000000 in
set_option maxRecDepth 4000 in
theorem kp_X6_takeWord_18_1028 (l : Launch) (M : Mem) (hJ : Iw M) (hp0 : M 18 6 ≤ M 18 5 ∧ M 18 5 ≤ M 18 4) : CI l yX6_takeWord cX6_takeWord 3 (some .boolean) 7 (fun ad => [.ref (ad 18), .ref (ad 1028)]) M (fun z M' => (0 ≤ z ∧ z ≤ 1) ∧ Fr [18] M M' ∧ (M' 18 4 = M 18 4 ∧ M' 18 6 ≤ M' 18 5 ∧ M' 18 5 ≤ M' 18 4 ∧ M' 18 1 = M 18 1)) := by
  obtain ⟨hI, hW⟩ := hJ
  have hF : Fr [18] M M := Fr.rf
  refine en_z (by decide +kernel) (fun ad => by exact Nat.le_of_ble_eq_true rfl) (fun D cy ad A p e s m args below meth c Q F hret => ?_)
  refine z_eq (ls' := [(0, .ref (ad 18)), (1, .ref (ad 1028))]) rfl rfl rfl ?_
  refine z_aload_n F dX6_takeWord_0 rfl (q := 0) rfl ?_
  refine z_aload_n F dX6_takeWord_1 rfl (q := 1) rfl ?_
  refine zv_i (rest := []) F (kp_X6_isWord_18_1028 l M ⟨hI, hW⟩ (by omega)) cs_X6_86 (T := TX6) (N := 9) (ci := 6) rfl gs_18 (by decide) (by decide) rfl rfl rfl (Nat.le_of_ble_eq_true rfl) dX6_takeWord_2 (fun v1 M2 rv1 hI p3 => ?_)
  obtain ⟨hI, hW⟩ := hI
  obtain ⟨⟨av1, bv1⟩, rfl⟩ := p3
  refine z_istore_n F dX6_takeWord_5 rfl (by decide) (ls' := [(2, ii v1), (0, .ref (ad 18)), (1, .ref (ad 1028))]) rfl ?_
  refine z_iload_n F dX6_takeWord_6 rfl (q := 0) rfl ?_
  refine z_if_eq (tgt := 14) F dX6_takeWord_7 (by decide +kernel) (by omega) (fun c4 => ?_) (fun c4 => ?_)
  · refine z_iload_n F dX6_takeWord_14 rfl (q := 0) rfl ?_
    exact hret _ _ 15 _ ⟨by omega, by omega⟩ ⟨hI, hW⟩ ⟨⟨by omega, by omega⟩, hF, (by omega)⟩ dX6_takeWord_15
  · refine z_aload_n F dX6_takeWord_10 rfl (q := 1) rfl ?_
    refine zv_v (rest := []) F (kp_X6_advance_18 l M ⟨hI, hW⟩ (by omega)) cs_X6_42 (T := TX6) (N := 9) (ci := 6) rfl gs_18 (by decide) (by decide) rfl rfl rfl (Nat.le_of_ble_eq_true rfl) dX6_takeWord_11 (fun M5 hI p6 => ?_)
    obtain ⟨hI, hW⟩ := hI
    obtain ⟨fp6, xp6⟩ := p6
    have hF := hF.call fp6 (by decide)
    refine z_iload_n F dX6_takeWord_14 rfl (q := 0) rfl ?_
    exact hret _ _ 15 _ ⟨by omega, by omega⟩ ⟨hI, hW⟩ ⟨⟨by omega, by omega⟩, hF, (by omega)⟩ dX6_takeWord_15
set_option maxRecDepth 4000 in
theorem k_X2_append_31 (l : Launch) (M : Mem) (hJ : Iw M) (x0 : Int) (hx0a : (-2147483648) ≤ x0) (hx0b : x0 ≤ 2147483647) : CV l yX2_append cX2_append 2 none 1 (fun ad => [.ref (ad 31), ii x0]) M (fun M' => Fr [31, 32] M M') := by
  obtain ⟨hI, hW⟩ := hJ
  have hF : Fr [31, 32] M M := Fr.rf
  refine en_v (by decide +kernel) (fun ad => by exact Nat.le_of_ble_eq_true rfl) (fun D cy ad A p e s m args below meth c Q F hret => ?_)
  refine z_eq (ls' := [(0, .ref (ad 31)), (1, ii x0)]) rfl rfl rfl ?_
  refine z_aload_n F dX2_append_0 rfl (q := 0) rfl ?_
  refine gf_X2_25 F hI gs_31 rfl bd_31_1 dX2_append_1 (fun v1 ev1 av1 bv1 => ?_)
  refine z_aload_n F dX2_append_4 rfl (q := 0) rfl ?_
  refine rf_X2_9 F gs_31 rfl dX2_append_5 ?_
  refine z_alen (x := 900) F gs_32 rfl rfl dX2_append_8 ?_
  refine z_icmp_ge (tgt := 32) F dX2_append_9 (by decide +kernel) (by omega) (by omega) (fun c2 => ?_) (fun c2 => ?_)
  · exact hret _ 32 _ ⟨hI, hW⟩ hF dX2_append_32
  · refine z_aload_n F dX2_append_12 rfl (q := 0) rfl ?_
    refine rf_X2_9 F gs_31 rfl dX2_append_13 ?_
    refine z_aload_n F dX2_append_16 rfl (q := 0) rfl ?_
    refine gf_X2_25 F hI gs_31 rfl bd_31_1 dX2_append_17 (fun v3 ev3 av3 bv3 => ?_)
    have zv3 : v1 = v3 := ev1.trans ev3.symm
    subst zv3
    refine z_iload_n F dX2_append_20 rfl (q := 1) rfl ?_
    refine z_iast F hI gs_32 (by omega) (by omega) (by decide) bd_32 dX2_append_21 (by omega) (by omega) (fun M5 hI sf4 f4 => ?_)
    have hF := hF.wr f4 (by decide) (by decide)
    have hW : WFk M5 := hW.site f4 (by decide)
    refine z_aload_n F dX2_append_22 rfl (q := 0) rfl ?_
    refine z_dup F dX2_append_23 rfl ?_
    refine gf_X2_25 F hI gs_31 rfl bd_31_1 dX2_append_24 (fun v6 ev6 av6 bv6 => ?_)
    have q7 : v1 = M5 31 1 := ev1.trans (f4 31 1 (fun q => absurd q.1 (by decide))).symm
    have zv6 : v1 = v6 := q7.trans ev6.symm
    subst zv6
    refine z_iconst F dX2_append_27 ?_
    refine z_iadd F dX2_append_28 ?_
    refine z_nm (fun v8 ev8 => ?_)
    refine pf_X2_25 F hI gs_31 rfl bd_31_1 rfl rfl dX2_append_29 (by omega) (by omega) (fun M10 hI sf9 f9 => ?_)
    have hF := hF.wr f9 (by decide) (by decide)
    have hW : WFk M10 := hW.site f9 (by decide)
    exact hret _ 32 _ ⟨hI, hW⟩ hF dX2_append_32
def RdX (l : Launch) (nr : Nat) : Prop :=
  (∀ (M : Mem) (hJ : Iw M) (x0 : Int) (hx0a : 0 ≤ x0) (hx0b : x0 ≤ 6) (hp0 : M 18 6 ≤ M 18 5 ∧ M 18 5 ≤ M 18 4) (hmu : (6 - x0) * 8 + 6 < (nr : Int)), CV l yX6_readTruth cX6_readTruth 3 none (12 + nr) (fun ad => [.ref (ad 18), ii x0]) M (fun M' => Fr [18, 31, 32] M M' ∧ (M' 18 4 = M 18 4 ∧ M' 18 6 ≤ M' 18 5 ∧ M' 18 5 ≤ M' 18 4))) ∧
  (∀ (M : Mem) (hJ : Iw M) (x0 : Int) (hx0a : 0 ≤ x0) (hx0b : x0 ≤ 6) (hp0 : M 18 6 ≤ M 18 5 ∧ M 18 5 ≤ M 18 4) (hmu : (6 - x0) * 8 + 5 < (nr : Int)), CV l yX6_readBoth cX6_readBoth 3 none (12 + nr) (fun ad => [.ref (ad 18), ii x0]) M (fun M' => Fr [18, 31, 32] M M' ∧ (M' 18 4 = M 18 4 ∧ M' 18 6 ≤ M' 18 5 ∧ M' 18 5 ≤ M' 18 4))) ∧
  (∀ (M : Mem) (hJ : Iw M) (x0 : Int) (hx0a : 0 ≤ x0) (hx0b : x0 ≤ 6) (hp0 : M 18 6 ≤ M 18 5 ∧ M 18 5 ≤ M 18 4) (hmu : (6 - x0) * 8 + 4 < (nr : Int)), CV l yX6_readUnit cX6_readUnit 3 none (12 + nr) (fun ad => [.ref (ad 18), ii x0]) M (fun M' => Fr [18, 31, 32] M M' ∧ (M' 18 4 = M 18 4 ∧ M' 18 6 ≤ M' 18 5 ∧ M' 18 5 ≤ M' 18 4))) ∧
  (∀ (M : Mem) (hJ : Iw M) (x0 : Int) (hx0a : 0 ≤ x0) (hx0b : x0 ≤ 6) (hp0 : M 18 6 ≤ M 18 5 ∧ M 18 5 ≤ M 18 4) (hmu : (6 - x0) * 8 + 3 < (nr : Int)), CV l yX6_readSum cX6_readSum 4 none (12 + nr) (fun ad => [.ref (ad 18), ii x0]) M (fun M' => Fr [18, 31, 32] M M' ∧ (M' 18 4 = M 18 4 ∧ M' 18 6 ≤ M' 18 5 ∧ M' 18 5 ≤ M' 18 4))) ∧
  (∀ (M : Mem) (hJ : Iw M) (x0 : Int) (hx0a : 0 ≤ x0) (hx0b : x0 ≤ 6) (hp0 : M 18 6 ≤ M 18 5 ∧ M 18 5 ≤ M 18 4) (hmu : (6 - x0) * 8 + 2 < (nr : Int)), CV l yX6_readTerm cX6_readTerm 3 none (12 + nr) (fun ad => [.ref (ad 18), ii x0]) M (fun M' => Fr [18, 31, 32] M M' ∧ (M' 18 4 = M 18 4 ∧ M' 18 6 ≤ M' 18 5 ∧ M' 18 5 ≤ M' 18 4))) ∧
  (∀ (M : Mem) (hJ : Iw M) (x0 : Int) (hx0a : 0 ≤ x0) (hx0b : x0 ≤ 6) (hp0 : M 18 6 ≤ M 18 5 ∧ M 18 5 ≤ M 18 4) (hmu : (6 - x0) * 8 + 1 < (nr : Int)), CV l yX6_readAtom cX6_readAtom 3 none (12 + nr) (fun ad => [.ref (ad 18), ii x0]) M (fun M' => Fr [18, 31, 32] M M' ∧ (M' 18 4 = M 18 4 ∧ M' 18 6 ≤ M' 18 5 ∧ M' 18 5 ≤ M' 18 4)))
set_option maxHeartbeats 4000000 in
set_option maxRecDepth 4000 in
theorem kp_X6_readTruth_18 (l : Launch) (nr : Nat) (ih : RdX l nr) : ∀ (M : Mem) (hJ : Iw M) (x0 : Int) (hx0a : 0 ≤ x0) (hx0b : x0 ≤ 6) (hp0 : M 18 6 ≤ M 18 5 ∧ M 18 5 ≤ M 18 4) (hmu : (6 - x0) * 8 + 6 < ((nr + 1 : Nat) : Int)), CV l yX6_readTruth cX6_readTruth 3 none (12 + (nr + 1)) (fun ad => [.ref (ad 18), ii x0]) M (fun M' => Fr [18, 31, 32] M M' ∧ (M' 18 4 = M 18 4 ∧ M' 18 6 ≤ M' 18 5 ∧ M' 18 5 ≤ M' 18 4)) := by
  intro M hJ x0 hx0a hx0b hp0 hmu
  obtain ⟨hI, hW⟩ := hJ
  have hF : Fr [18, 31, 32] M M := Fr.rf
  refine en_v (by decide +kernel) (fun ad => by exact Nat.le_of_ble_eq_true rfl) (fun D cy ad A p e s m args below meth c Q F hret => ?_)
  refine z_eq (ls' := [(0, .ref (ad 18)), (1, ii x0)]) rfl rfl rfl ?_
  refine z_aload_n F dX6_readTruth_0 rfl (q := 0) rfl ?_
  refine z_iload_n F dX6_readTruth_1 rfl (q := 1) rfl ?_
  refine zv_v (rest := []) F (ih.2.1 M ⟨hI, hW⟩ x0 (by omega) (by omega) (by omega) (by omega)) cs_X6_234 (T := TX6) (N := 9) (ci := 6) rfl gs_18 (by omega) (by decide) rfl rfl rfl (Nat.le_of_ble_eq_true rfl) dX6_readTruth_2 (fun M1 hI p2 => ?_)
  obtain ⟨hI, hW⟩ := hI
  obtain ⟨fp2, xp2⟩ := p2
  have hF := hF.call fp2 (by decide)
  refine z_iconst F dX6_readTruth_5 ?_
  refine z_istore_n F dX6_readTruth_6 rfl (by decide) (ls' := [(2, ii 0), (0, .ref (ad 18)), (1, ii x0)]) rfl ?_
  refine z_loc [1, 2, 0] (ls' := [(0, .ref (ad 18)), (1, ii x0), (2, ii 0)]) rfl ?_
  suffices key7 : ∀ (n : Nat) (y4 : Int) (M3 : Mem), Inv M3 → WFk M3 → Fr [18, 31, 32] M M3 → 0 ≤ y4 → y4 ≤ 900 → (M3 18 4 = M 18 4) → (M3 18 6 ≤ M3 18 5 ∧ M3 18 5 ≤ M3 18 4) → 900 - y4 < (n : Int) → Z D cy ad p l e (RMh (12 + (nr + 1))) s m args below meth c A 3 0 0 Q 7 [(0, .ref (ad 18)), (1, ii x0), (2, ii y4)] [] M3 from key7 901 0 M1 hI hW hF (by omega) (by omega) (by omega) (by omega) (by omega)
  intro n7
  induction n7 with
  | zero => intro y4 M3 hI hW hF ay4 by4 i7_0 i7_1 hn7; exfalso; omega
  | succ n7 ih7 =>
    intro y4 M3 hI hW hF ay4 by4 i7_0 i7_1 hn7
    refine z_iload_n F dX6_readTruth_7 rfl (q := 2) rfl ?_
    refine z_sipush F dX6_readTruth_8 (by decide +kernel) ?_
    refine z_icmp_ge (tgt := 46) F dX6_readTruth_11 (by decide +kernel) (by omega) (by omega) (fun c5 => ?_) (fun c5 => ?_)
    · exact hret _ 46 _ ⟨hI, hW⟩ ⟨hF, (by omega)⟩ dX6_readTruth_46
    · refine z_aload_n F dX6_readTruth_14 rfl (q := 0) rfl ?_
      refine z_ldcS (j := 28) F dX6_readTruth_15 rfl rfl rfl ?_
      refine z_eq (st' := [.ref (ad 1028), .ref (ad 18)]) rfl rfl rfl ?_
      refine zv_i (rest := []) F (kp_X6_takeWord_18_1028 l M3 ⟨hI, hW⟩ (by omega)) cs_X6_144 (T := TX6) (N := 9) (ci := 6) rfl gs_18 (by omega) (by decide) rfl rfl rfl (Nat.le_of_ble_eq_true rfl) dX6_readTruth_17 (fun v6 M7 rv6 hI p8 => ?_)
      obtain ⟨hI, hW⟩ := hI
      obtain ⟨⟨av6, bv6⟩, fp8, xp8⟩ := p8
      have hF := hF.call fp8 (by decide)
      refine z_if_eq (tgt := 46) F dX6_readTruth_20 (by decide +kernel) (by omega) (fun c9 => ?_) (fun c9 => ?_)
      · exact hret _ 46 _ ⟨hI, hW⟩ ⟨hF, (by omega)⟩ dX6_readTruth_46
      · refine z_aload_n F dX6_readTruth_23 rfl (q := 0) rfl ?_
        refine z_iload_n F dX6_readTruth_24 rfl (q := 1) rfl ?_
        refine zv_v (rest := []) F (ih.2.1 M7 ⟨hI, hW⟩ x0 (by omega) (by omega) (by omega) (by omega)) cs_X6_234 (T := TX6) (N := 9) (ci := 6) rfl gs_18 (by omega) (by decide) rfl rfl rfl (Nat.le_of_ble_eq_true rfl) dX6_readTruth_25 (fun M10 hI p11 => ?_)
        obtain ⟨hI, hW⟩ := hI
        obtain ⟨fp11, xp11⟩ := p11
        have hF := hF.call fp11 (by decide)
        refine z_aload_n F dX6_readTruth_28 rfl (q := 0) rfl ?_
        refine rf_X6_12 F gs_18 rfl dX6_readTruth_29 ?_
        refine rf_X6_152 F gs_19 rfl dX6_readTruth_32 ?_
        refine z_bipush F dX6_readTruth_35 (by decide +kernel) ?_
        refine zv_v (rest := []) F (k_X2_append_31 l M10 ⟨hI, hW⟩ (-17) (by omega) (by omega)) cs_X6_239 (T := TX2) (N := 5) (ci := 2) rfl gs_31 (by omega) (by decide) rfl rfl rfl (Nat.le_of_ble_eq_true rfl) dX6_readTruth_37 (fun M12 hI p13 => ?_)
        obtain ⟨hI, hW⟩ := hI
        have fp13 := p13
        have hF := hF.call fp13 (by decide)
        have tM12_18_1 : M12 18 1 = M10 18 1 := fp13.at (by decide)
        have tM12_18_4 : M12 18 4 = M10 18 4 := fp13.at (by decide)
        have tM12_18_5 : M12 18 5 = M10 18 5 := fp13.at (by decide)
        have tM12_18_6 : M12 18 6 = M10 18 6 := fp13.at (by decide)
        refine z_iincN F dX6_readTruth_40 (q := 2) rfl (by decide) (fun v14 ev14 => ?_)
        refine z_eq (ls' := [(2, ii v14), (0, .ref (ad 18)), (1, ii x0)]) rfl rfl rfl ?_
        refine z_goto (tgt := 7) F dX6_readTruth_43 (by decide +kernel) ?_
        refine z_loc [1, 2, 0] (ls' := [(0, .ref (ad 18)), (1, ii x0), (2, ii v14)]) rfl ?_
        exact ih7 v14 M12 hI hW hF (by omega) (by omega) (by omega) (by omega) (by omega)
set_option maxHeartbeats 4000000 in
set_option maxRecDepth 4000 in
theorem kp_X6_isWord_18_1027 (l : Launch) (M : Mem) (hJ : Iw M) (hp0 : M 18 6 ≤ M 18 5 ∧ M 18 5 ≤ M 18 4) : CI l yX6_isWord cX6_isWord 3 (some .boolean) 5 (fun ad => [.ref (ad 18), .ref (ad 1027)]) M (fun z M' => (0 ≤ z ∧ z ≤ 1) ∧ M = M') := by
  obtain ⟨hI, hW⟩ := hJ
  refine en_z (by decide +kernel) (fun ad => by exact Nat.le_of_ble_eq_true rfl) (fun D cy ad A p e s m args below meth c Q F hret => ?_)
  refine z_eq (ls' := [(0, .ref (ad 18)), (1, .ref (ad 1027))]) rfl rfl rfl ?_
  obtain ⟨u1, eu1⟩ : ∃ v : Int, v = M 18 1 := ⟨_, rfl⟩
  have ku1 : (-2147483648) ≤ u1 ∧ u1 ≤ 2147483647 := by have := hI.at (show Bd 18 1 = (-2147483648, 2147483647) from rfl); omega
  obtain ⟨u2, eu2⟩ : ∃ v : Int, v = M 18 4 := ⟨_, rfl⟩
  have ku2 : 0 ≤ u2 ∧ u2 ≤ 900 := by have := hI.at (show Bd 18 4 = (0, 900) from rfl); omega
  obtain ⟨u3, eu3⟩ : ∃ v : Int, v = M 18 5 := ⟨_, rfl⟩
  have ku3 : 0 ≤ u3 ∧ u3 ≤ 900 := by have := hI.at (show Bd 18 5 = (0, 900) from rfl); omega
  obtain ⟨u4, eu4⟩ : ∃ v : Int, v = M 18 6 := ⟨_, rfl⟩
  have ku4 : 0 ≤ u4 ∧ u4 ≤ 900 := by have := hI.at (show Bd 18 6 = (0, 900) from rfl); omega
  refine z_aload_n F dX6_isWord_0 rfl (q := 0) rfl ?_
  refine gf_X6_36 F hI gs_18 rfl bd_18_1 dX6_isWord_1 (fun v5 ev5 av5 bv5 => ?_)
  have zv5 : u1 = v5 := eu1.trans ev5.symm
  subst zv5
  refine z_if_ne (tgt := 31) F dX6_isWord_4 (by decide +kernel) (by omega) (fun c6 => ?_) (fun c6 => ?_)
  · refine z_iconst F dX6_isWord_31 ?_
    exact hret _ _ 32 _ ⟨by omega, by omega⟩ ⟨hI, hW⟩ ⟨⟨by omega, by omega⟩, rfl⟩ dX6_isWord_32
  · refine z_aload_n F dX6_isWord_7 rfl (q := 0) rfl ?_
    refine gf_X6_48 F hI gs_18 rfl bd_18_7 dX6_isWord_8 (fun v7 ev7 av7 bv7 => ?_)
    refine z_iconst F dX6_isWord_11 ?_
    refine z_icmp_ne (tgt := 31) F dX6_isWord_12 (by decide +kernel) (by omega) (by omega) (fun c8 => ?_) (fun c8 => ?_)
    · refine z_iconst F dX6_isWord_31 ?_
      exact hret _ _ 32 _ ⟨by omega, by omega⟩ ⟨hI, hW⟩ ⟨⟨by omega, by omega⟩, rfl⟩ dX6_isWord_32
    · refine z_aload_n F dX6_isWord_15 rfl (q := 0) rfl ?_
      refine gf_X6_33 F hI gs_18 rfl bd_18_5 dX6_isWord_16 (fun v9 ev9 av9 bv9 => ?_)
      have zv9 : u3 = v9 := eu3.trans ev9.symm
      subst zv9
      refine z_aload_n F dX6_isWord_19 rfl (q := 0) rfl ?_
      refine gf_X6_57 F hI gs_18 rfl bd_18_6 dX6_isWord_20 (fun v10 ev10 av10 bv10 => ?_)
      have zv10 : u4 = v10 := eu4.trans ev10.symm
      subst zv10
      refine z_isub F dX6_isWord_23 ?_
      refine z_aload_n F dX6_isWord_24 rfl (q := 1) rfl ?_
      refine zvs_i (i := 27) (rest := [ii (u3 - u4)]) F (kS_len l M ⟨hI, hW⟩ 27 (by decide)) cs_X6_75 (by decide) (by decide) (by decide) rfl rfl rfl (Nat.le_of_ble_eq_true rfl) dX6_isWord_25 (fun v11 M9 rv11 hI9 pv11 => ?_)
      obtain ⟨ev11, rfl⟩ := pv11
      obtain rfl : v11 = 3 := ev11.trans (show ((sbyt.getD 27 []).length : Int) = 3 from by decide)
      clear hI9
      refine z_icmp_eq (tgt := 33) F dX6_isWord_28 (by decide +kernel) (by omega) (by omega) (fun c12 => ?_) (fun c12 => ?_)
      · refine z_iconst F dX6_isWord_33 ?_
        refine z_istore_n F dX6_isWord_34 rfl (by decide) (ls' := [(2, ii 0), (0, .ref (ad 18)), (1, .ref (ad 1027))]) rfl ?_
        refine z_loc [1, 2, 0] (ls' := [(0, .ref (ad 18)), (1, .ref (ad 1027)), (2, ii 0)]) rfl ?_
        suffices key35 : ∀ (n : Nat) (y14 : Int), 0 ≤ y14 → y14 ≤ 3 → 3 - y14 < (n : Int) → Z D cy ad p l e (RMh 5) s m args below meth c A 3 0 0 Q 35 [(0, .ref (ad 18)), (1, .ref (ad 1027)), (2, ii y14)] [] M from key35 4 0 (by omega) (by omega) (by omega)
        intro n35
        induction n35 with
        | zero => intro y14 ay14 by14 hn35; exfalso; omega
        | succ n35 ih35 =>
          intro y14 ay14 by14 hn35
          refine z_iload_n F dX6_isWord_35 rfl (q := 2) rfl ?_
          refine z_aload_n F dX6_isWord_36 rfl (q := 1) rfl ?_
          refine zvs_i (i := 27) (rest := [ii y14]) F (kS_len l M ⟨hI, hW⟩ 27 (by decide)) cs_X6_75 (by decide) (by decide) (by decide) rfl rfl rfl (Nat.le_of_ble_eq_true rfl) dX6_isWord_37 (fun v15 M9 rv15 hI9 pv15 => ?_)
          obtain ⟨ev15, rfl⟩ := pv15
          obtain rfl : v15 = 3 := ev15.trans (show ((sbyt.getD 27 []).length : Int) = 3 from by decide)
          clear hI9
          refine z_icmp_ge (tgt := 70) F dX6_isWord_40 (by decide +kernel) (by omega) (by omega) (fun c16 => ?_) (fun c16 => ?_)
          · refine z_iconst F dX6_isWord_70 ?_
            exact hret _ _ 71 _ ⟨by omega, by omega⟩ ⟨hI, hW⟩ ⟨⟨by omega, by omega⟩, rfl⟩ dX6_isWord_71
          · refine z_aload_n F dX6_isWord_43 rfl (q := 0) rfl ?_
            refine rf_X6_22 F gs_18 rfl dX6_isWord_44 ?_
            refine z_aload_n F dX6_isWord_47 rfl (q := 0) rfl ?_
            refine gf_X6_57 F hI gs_18 rfl bd_18_6 dX6_isWord_48 (fun v17 ev17 av17 bv17 => ?_)
            have zv17 : u4 = v17 := eu4.trans ev17.symm
            subst zv17
            refine z_iload_n F dX6_isWord_51 rfl (q := 2) rfl ?_
            refine z_iadd F dX6_isWord_52 ?_
            have k18 : 0 ≤ (u4 + y14) ∧ (u4 + y14) ≤ 899 := by omega
            refine z_bald F hI gs_1 (by omega) (by omega) (by decide) bd_1 dX6_isWord_53 (fun v19 (ev19 : v19 = M 1 _) av19 bv19 => ?_)
            refine z_aload_n F dX6_isWord_54 rfl (q := 1) rfl ?_
            refine z_iload_n F dX6_isWord_55 rfl (q := 2) rfl ?_
            refine zvs_i (i := 27) (rest := [ii v19]) F (kS_chr l M ⟨hI, hW⟩ 27 (by decide) y14 (by omega) (show y14 < ((sbyt.getD 27 []).length : Int) from by rw [show ((sbyt.getD 27 []).length : Int) = 3 from by decide]; omega)) cs_X6_78 (by decide) (by decide) (by decide) rfl rfl rfl (Nat.le_of_ble_eq_true rfl) dX6_isWord_56 (fun v20 M9 rv20 hI9 pv20 => ?_)
            obtain ⟨⟨av20, bv20⟩, rfl⟩ := pv20
            clear hI9
            refine z_icmp_eq (tgt := 64) F dX6_isWord_59 (by decide +kernel) (by omega) (by omega) (fun c21 => ?_) (fun c21 => ?_)
            · refine z_iincN F dX6_isWord_64 (q := 2) rfl (by decide) (fun v22 ev22 => ?_)
              refine z_eq (ls' := [(2, ii v22), (0, .ref (ad 18)), (1, .ref (ad 1027))]) rfl rfl rfl ?_
              refine z_goto (tgt := 35) F dX6_isWord_67 (by decide +kernel) ?_
              refine z_loc [1, 2, 0] (ls' := [(0, .ref (ad 18)), (1, .ref (ad 1027)), (2, ii v22)]) rfl ?_
              exact ih35 v22 (by omega) (by omega) (by omega)
            · refine z_iconst F dX6_isWord_62 ?_
              exact hret _ _ 63 _ ⟨by omega, by omega⟩ ⟨hI, hW⟩ ⟨⟨by omega, by omega⟩, rfl⟩ dX6_isWord_63
      · refine z_iconst F dX6_isWord_31 ?_
        exact hret _ _ 32 _ ⟨by omega, by omega⟩ ⟨hI, hW⟩ ⟨⟨by omega, by omega⟩, rfl⟩ dX6_isWord_32
set_option maxHeartbeats 4000000 in
set_option maxRecDepth 4000 in
theorem kp_X6_takeWord_18_1027 (l : Launch) (M : Mem) (hJ : Iw M) (hp0 : M 18 6 ≤ M 18 5 ∧ M 18 5 ≤ M 18 4) : CI l yX6_takeWord cX6_takeWord 3 (some .boolean) 7 (fun ad => [.ref (ad 18), .ref (ad 1027)]) M (fun z M' => (0 ≤ z ∧ z ≤ 1) ∧ Fr [18] M M' ∧ (M' 18 4 = M 18 4 ∧ M' 18 6 ≤ M' 18 5 ∧ M' 18 5 ≤ M' 18 4 ∧ M' 18 1 = M 18 1)) := by
  obtain ⟨hI, hW⟩ := hJ
  have hF : Fr [18] M M := Fr.rf
  refine en_z (by decide +kernel) (fun ad => by exact Nat.le_of_ble_eq_true rfl) (fun D cy ad A p e s m args below meth c Q F hret => ?_)
  refine z_eq (ls' := [(0, .ref (ad 18)), (1, .ref (ad 1027))]) rfl rfl rfl ?_
  refine z_aload_n F dX6_takeWord_0 rfl (q := 0) rfl ?_
  refine z_aload_n F dX6_takeWord_1 rfl (q := 1) rfl ?_
  refine zv_i (rest := []) F (kp_X6_isWord_18_1027 l M ⟨hI, hW⟩ (by omega)) cs_X6_86 (T := TX6) (N := 9) (ci := 6) rfl gs_18 (by decide) (by decide) rfl rfl rfl (Nat.le_of_ble_eq_true rfl) dX6_takeWord_2 (fun v1 M2 rv1 hI p3 => ?_)
  obtain ⟨hI, hW⟩ := hI
  obtain ⟨⟨av1, bv1⟩, rfl⟩ := p3
  refine z_istore_n F dX6_takeWord_5 rfl (by decide) (ls' := [(2, ii v1), (0, .ref (ad 18)), (1, .ref (ad 1027))]) rfl ?_
  refine z_iload_n F dX6_takeWord_6 rfl (q := 0) rfl ?_
  refine z_if_eq (tgt := 14) F dX6_takeWord_7 (by decide +kernel) (by omega) (fun c4 => ?_) (fun c4 => ?_)
  · refine z_iload_n F dX6_takeWord_14 rfl (q := 0) rfl ?_
    exact hret _ _ 15 _ ⟨by omega, by omega⟩ ⟨hI, hW⟩ ⟨⟨by omega, by omega⟩, hF, (by omega)⟩ dX6_takeWord_15
  · refine z_aload_n F dX6_takeWord_10 rfl (q := 1) rfl ?_
    refine zv_v (rest := []) F (kp_X6_advance_18 l M ⟨hI, hW⟩ (by omega)) cs_X6_42 (T := TX6) (N := 9) (ci := 6) rfl gs_18 (by decide) (by decide) rfl rfl rfl (Nat.le_of_ble_eq_true rfl) dX6_takeWord_11 (fun M5 hI p6 => ?_)
    obtain ⟨hI, hW⟩ := hI
    obtain ⟨fp6, xp6⟩ := p6
    have hF := hF.call fp6 (by decide)
    refine z_iload_n F dX6_takeWord_14 rfl (q := 0) rfl ?_
    exact hret _ _ 15 _ ⟨by omega, by omega⟩ ⟨hI, hW⟩ ⟨⟨by omega, by omega⟩, hF, (by omega)⟩ dX6_takeWord_15
set_option maxHeartbeats 4000000 in
set_option maxRecDepth 4000 in
theorem kp_X6_readBoth_18 (l : Launch) (nr : Nat) (ih : RdX l nr) : ∀ (M : Mem) (hJ : Iw M) (x0 : Int) (hx0a : 0 ≤ x0) (hx0b : x0 ≤ 6) (hp0 : M 18 6 ≤ M 18 5 ∧ M 18 5 ≤ M 18 4) (hmu : (6 - x0) * 8 + 5 < ((nr + 1 : Nat) : Int)), CV l yX6_readBoth cX6_readBoth 3 none (12 + (nr + 1)) (fun ad => [.ref (ad 18), ii x0]) M (fun M' => Fr [18, 31, 32] M M' ∧ (M' 18 4 = M 18 4 ∧ M' 18 6 ≤ M' 18 5 ∧ M' 18 5 ≤ M' 18 4)) := by
  intro M hJ x0 hx0a hx0b hp0 hmu
  obtain ⟨hI, hW⟩ := hJ
  have hF : Fr [18, 31, 32] M M := Fr.rf
  refine en_v (by decide +kernel) (fun ad => by exact Nat.le_of_ble_eq_true rfl) (fun D cy ad A p e s m args below meth c Q F hret => ?_)
  refine z_eq (ls' := [(0, .ref (ad 18)), (1, ii x0)]) rfl rfl rfl ?_
  refine z_aload_n F dX6_readBoth_0 rfl (q := 0) rfl ?_
  refine z_iload_n F dX6_readBoth_1 rfl (q := 1) rfl ?_
  refine zv_v (rest := []) F (ih.2.2.1 M ⟨hI, hW⟩ x0 (by omega) (by omega) (by omega) (by omega)) cs_X6_242 (T := TX6) (N := 9) (ci := 6) rfl gs_18 (by omega) (by decide) rfl rfl rfl (Nat.le_of_ble_eq_true rfl) dX6_readBoth_2 (fun M1 hI p2 => ?_)
  obtain ⟨hI, hW⟩ := hI
  obtain ⟨fp2, xp2⟩ := p2
  have hF := hF.call fp2 (by decide)
  refine z_iconst F dX6_readBoth_5 ?_
  refine z_istore_n F dX6_readBoth_6 rfl (by decide) (ls' := [(2, ii 0), (0, .ref (ad 18)), (1, ii x0)]) rfl ?_
  refine z_loc [1, 2, 0] (ls' := [(0, .ref (ad 18)), (1, ii x0), (2, ii 0)]) rfl ?_
  suffices key7 : ∀ (n : Nat) (y4 : Int) (M3 : Mem), Inv M3 → WFk M3 → Fr [18, 31, 32] M M3 → 0 ≤ y4 → y4 ≤ 900 → (M3 18 4 = M 18 4) → (M3 18 6 ≤ M3 18 5 ∧ M3 18 5 ≤ M3 18 4) → 900 - y4 < (n : Int) → Z D cy ad p l e (RMh (12 + (nr + 1))) s m args below meth c A 3 0 0 Q 7 [(0, .ref (ad 18)), (1, ii x0), (2, ii y4)] [] M3 from key7 901 0 M1 hI hW hF (by omega) (by omega) (by omega) (by omega) (by omega)
  intro n7
  induction n7 with
  | zero => intro y4 M3 hI hW hF ay4 by4 i7_0 i7_1 hn7; exfalso; omega
  | succ n7 ih7 =>
    intro y4 M3 hI hW hF ay4 by4 i7_0 i7_1 hn7
    refine z_iload_n F dX6_readBoth_7 rfl (q := 2) rfl ?_
    refine z_sipush F dX6_readBoth_8 (by decide +kernel) ?_
    refine z_icmp_ge (tgt := 46) F dX6_readBoth_11 (by decide +kernel) (by omega) (by omega) (fun c5 => ?_) (fun c5 => ?_)
    · exact hret _ 46 _ ⟨hI, hW⟩ ⟨hF, (by omega)⟩ dX6_readBoth_46
    · refine z_aload_n F dX6_readBoth_14 rfl (q := 0) rfl ?_
      refine z_ldcS (j := 27) F dX6_readBoth_15 rfl rfl rfl ?_
      refine z_eq (st' := [.ref (ad 1027), .ref (ad 18)]) rfl rfl rfl ?_
      refine zv_i (rest := []) F (kp_X6_takeWord_18_1027 l M3 ⟨hI, hW⟩ (by omega)) cs_X6_144 (T := TX6) (N := 9) (ci := 6) rfl gs_18 (by omega) (by decide) rfl rfl rfl (Nat.le_of_ble_eq_true rfl) dX6_readBoth_17 (fun v6 M7 rv6 hI p8 => ?_)
      obtain ⟨hI, hW⟩ := hI
      obtain ⟨⟨av6, bv6⟩, fp8, xp8⟩ := p8
      have hF := hF.call fp8 (by decide)
      refine z_if_eq (tgt := 46) F dX6_readBoth_20 (by decide +kernel) (by omega) (fun c9 => ?_) (fun c9 => ?_)
      · exact hret _ 46 _ ⟨hI, hW⟩ ⟨hF, (by omega)⟩ dX6_readBoth_46
      · refine z_aload_n F dX6_readBoth_23 rfl (q := 0) rfl ?_
        refine z_iload_n F dX6_readBoth_24 rfl (q := 1) rfl ?_
        refine zv_v (rest := []) F (ih.2.2.1 M7 ⟨hI, hW⟩ x0 (by omega) (by omega) (by omega) (by omega)) cs_X6_242 (T := TX6) (N := 9) (ci := 6) rfl gs_18 (by omega) (by decide) rfl rfl rfl (Nat.le_of_ble_eq_true rfl) dX6_readBoth_25 (fun M10 hI p11 => ?_)
        obtain ⟨hI, hW⟩ := hI
        obtain ⟨fp11, xp11⟩ := p11
        have hF := hF.call fp11 (by decide)
        refine z_aload_n F dX6_readBoth_28 rfl (q := 0) rfl ?_
        refine rf_X6_12 F gs_18 rfl dX6_readBoth_29 ?_
        refine rf_X6_152 F gs_19 rfl dX6_readBoth_32 ?_
        refine z_bipush F dX6_readBoth_35 (by decide +kernel) ?_
        refine zv_v (rest := []) F (k_X2_append_31 l M10 ⟨hI, hW⟩ (-16) (by omega) (by omega)) cs_X6_239 (T := TX2) (N := 5) (ci := 2) rfl gs_31 (by omega) (by decide) rfl rfl rfl (Nat.le_of_ble_eq_true rfl) dX6_readBoth_37 (fun M12 hI p13 => ?_)
        obtain ⟨hI, hW⟩ := hI
        have fp13 := p13
        have hF := hF.call fp13 (by decide)
        have tM12_18_1 : M12 18 1 = M10 18 1 := fp13.at (by decide)
        have tM12_18_4 : M12 18 4 = M10 18 4 := fp13.at (by decide)
        have tM12_18_5 : M12 18 5 = M10 18 5 := fp13.at (by decide)
        have tM12_18_6 : M12 18 6 = M10 18 6 := fp13.at (by decide)
        refine z_iincN F dX6_readBoth_40 (q := 2) rfl (by decide) (fun v14 ev14 => ?_)
        refine z_eq (ls' := [(2, ii v14), (0, .ref (ad 18)), (1, ii x0)]) rfl rfl rfl ?_
        refine z_goto (tgt := 7) F dX6_readBoth_43 (by decide +kernel) ?_
        refine z_loc [1, 2, 0] (ls' := [(0, .ref (ad 18)), (1, ii x0), (2, ii v14)]) rfl ?_
        exact ih7 v14 M12 hI hW hF (by omega) (by omega) (by omega) (by omega) (by omega)
set_option maxHeartbeats 4000000 in
set_option maxRecDepth 4000 in
theorem kp_X6_isWord_18_1019 (l : Launch) (M : Mem) (hJ : Iw M) (hp0 : M 18 6 ≤ M 18 5 ∧ M 18 5 ≤ M 18 4) : CI l yX6_isWord cX6_isWord 3 (some .boolean) 5 (fun ad => [.ref (ad 18), .ref (ad 1019)]) M (fun z M' => (0 ≤ z ∧ z ≤ 1) ∧ M = M') := by
  obtain ⟨hI, hW⟩ := hJ
  refine en_z (by decide +kernel) (fun ad => by exact Nat.le_of_ble_eq_true rfl) (fun D cy ad A p e s m args below meth c Q F hret => ?_)
  refine z_eq (ls' := [(0, .ref (ad 18)), (1, .ref (ad 1019))]) rfl rfl rfl ?_
  obtain ⟨u1, eu1⟩ : ∃ v : Int, v = M 18 1 := ⟨_, rfl⟩
  have ku1 : (-2147483648) ≤ u1 ∧ u1 ≤ 2147483647 := by have := hI.at (show Bd 18 1 = (-2147483648, 2147483647) from rfl); omega
  obtain ⟨u2, eu2⟩ : ∃ v : Int, v = M 18 4 := ⟨_, rfl⟩
  have ku2 : 0 ≤ u2 ∧ u2 ≤ 900 := by have := hI.at (show Bd 18 4 = (0, 900) from rfl); omega
  obtain ⟨u3, eu3⟩ : ∃ v : Int, v = M 18 5 := ⟨_, rfl⟩
  have ku3 : 0 ≤ u3 ∧ u3 ≤ 900 := by have := hI.at (show Bd 18 5 = (0, 900) from rfl); omega
  obtain ⟨u4, eu4⟩ : ∃ v : Int, v = M 18 6 := ⟨_, rfl⟩
  have ku4 : 0 ≤ u4 ∧ u4 ≤ 900 := by have := hI.at (show Bd 18 6 = (0, 900) from rfl); omega
  refine z_aload_n F dX6_isWord_0 rfl (q := 0) rfl ?_
  refine gf_X6_36 F hI gs_18 rfl bd_18_1 dX6_isWord_1 (fun v5 ev5 av5 bv5 => ?_)
  have zv5 : u1 = v5 := eu1.trans ev5.symm
  subst zv5
  refine z_if_ne (tgt := 31) F dX6_isWord_4 (by decide +kernel) (by omega) (fun c6 => ?_) (fun c6 => ?_)
  · refine z_iconst F dX6_isWord_31 ?_
    exact hret _ _ 32 _ ⟨by omega, by omega⟩ ⟨hI, hW⟩ ⟨⟨by omega, by omega⟩, rfl⟩ dX6_isWord_32
  · refine z_aload_n F dX6_isWord_7 rfl (q := 0) rfl ?_
    refine gf_X6_48 F hI gs_18 rfl bd_18_7 dX6_isWord_8 (fun v7 ev7 av7 bv7 => ?_)
    refine z_iconst F dX6_isWord_11 ?_
    refine z_icmp_ne (tgt := 31) F dX6_isWord_12 (by decide +kernel) (by omega) (by omega) (fun c8 => ?_) (fun c8 => ?_)
    · refine z_iconst F dX6_isWord_31 ?_
      exact hret _ _ 32 _ ⟨by omega, by omega⟩ ⟨hI, hW⟩ ⟨⟨by omega, by omega⟩, rfl⟩ dX6_isWord_32
    · refine z_aload_n F dX6_isWord_15 rfl (q := 0) rfl ?_
      refine gf_X6_33 F hI gs_18 rfl bd_18_5 dX6_isWord_16 (fun v9 ev9 av9 bv9 => ?_)
      have zv9 : u3 = v9 := eu3.trans ev9.symm
      subst zv9
      refine z_aload_n F dX6_isWord_19 rfl (q := 0) rfl ?_
      refine gf_X6_57 F hI gs_18 rfl bd_18_6 dX6_isWord_20 (fun v10 ev10 av10 bv10 => ?_)
      have zv10 : u4 = v10 := eu4.trans ev10.symm
      subst zv10
      refine z_isub F dX6_isWord_23 ?_
      refine z_aload_n F dX6_isWord_24 rfl (q := 1) rfl ?_
      refine zvs_i (i := 19) (rest := [ii (u3 - u4)]) F (kS_len l M ⟨hI, hW⟩ 19 (by decide)) cs_X6_75 (by decide) (by decide) (by decide) rfl rfl rfl (Nat.le_of_ble_eq_true rfl) dX6_isWord_25 (fun v11 M9 rv11 hI9 pv11 => ?_)
      obtain ⟨ev11, rfl⟩ := pv11
      obtain rfl : v11 = 3 := ev11.trans (show ((sbyt.getD 19 []).length : Int) = 3 from by decide)
      clear hI9
      refine z_icmp_eq (tgt := 33) F dX6_isWord_28 (by decide +kernel) (by omega) (by omega) (fun c12 => ?_) (fun c12 => ?_)
      · refine z_iconst F dX6_isWord_33 ?_
        refine z_istore_n F dX6_isWord_34 rfl (by decide) (ls' := [(2, ii 0), (0, .ref (ad 18)), (1, .ref (ad 1019))]) rfl ?_
        refine z_loc [1, 2, 0] (ls' := [(0, .ref (ad 18)), (1, .ref (ad 1019)), (2, ii 0)]) rfl ?_
        suffices key35 : ∀ (n : Nat) (y14 : Int), 0 ≤ y14 → y14 ≤ 3 → 3 - y14 < (n : Int) → Z D cy ad p l e (RMh 5) s m args below meth c A 3 0 0 Q 35 [(0, .ref (ad 18)), (1, .ref (ad 1019)), (2, ii y14)] [] M from key35 4 0 (by omega) (by omega) (by omega)
        intro n35
        induction n35 with
        | zero => intro y14 ay14 by14 hn35; exfalso; omega
        | succ n35 ih35 =>
          intro y14 ay14 by14 hn35
          refine z_iload_n F dX6_isWord_35 rfl (q := 2) rfl ?_
          refine z_aload_n F dX6_isWord_36 rfl (q := 1) rfl ?_
          refine zvs_i (i := 19) (rest := [ii y14]) F (kS_len l M ⟨hI, hW⟩ 19 (by decide)) cs_X6_75 (by decide) (by decide) (by decide) rfl rfl rfl (Nat.le_of_ble_eq_true rfl) dX6_isWord_37 (fun v15 M9 rv15 hI9 pv15 => ?_)
          obtain ⟨ev15, rfl⟩ := pv15
          obtain rfl : v15 = 3 := ev15.trans (show ((sbyt.getD 19 []).length : Int) = 3 from by decide)
          clear hI9
          refine z_icmp_ge (tgt := 70) F dX6_isWord_40 (by decide +kernel) (by omega) (by omega) (fun c16 => ?_) (fun c16 => ?_)
          · refine z_iconst F dX6_isWord_70 ?_
            exact hret _ _ 71 _ ⟨by omega, by omega⟩ ⟨hI, hW⟩ ⟨⟨by omega, by omega⟩, rfl⟩ dX6_isWord_71
          · refine z_aload_n F dX6_isWord_43 rfl (q := 0) rfl ?_
            refine rf_X6_22 F gs_18 rfl dX6_isWord_44 ?_
            refine z_aload_n F dX6_isWord_47 rfl (q := 0) rfl ?_
            refine gf_X6_57 F hI gs_18 rfl bd_18_6 dX6_isWord_48 (fun v17 ev17 av17 bv17 => ?_)
            have zv17 : u4 = v17 := eu4.trans ev17.symm
            subst zv17
            refine z_iload_n F dX6_isWord_51 rfl (q := 2) rfl ?_
            refine z_iadd F dX6_isWord_52 ?_
            have k18 : 0 ≤ (u4 + y14) ∧ (u4 + y14) ≤ 899 := by omega
            refine z_bald F hI gs_1 (by omega) (by omega) (by decide) bd_1 dX6_isWord_53 (fun v19 (ev19 : v19 = M 1 _) av19 bv19 => ?_)
            refine z_aload_n F dX6_isWord_54 rfl (q := 1) rfl ?_
            refine z_iload_n F dX6_isWord_55 rfl (q := 2) rfl ?_
            refine zvs_i (i := 19) (rest := [ii v19]) F (kS_chr l M ⟨hI, hW⟩ 19 (by decide) y14 (by omega) (show y14 < ((sbyt.getD 19 []).length : Int) from by rw [show ((sbyt.getD 19 []).length : Int) = 3 from by decide]; omega)) cs_X6_78 (by decide) (by decide) (by decide) rfl rfl rfl (Nat.le_of_ble_eq_true rfl) dX6_isWord_56 (fun v20 M9 rv20 hI9 pv20 => ?_)
            obtain ⟨⟨av20, bv20⟩, rfl⟩ := pv20
            clear hI9
            refine z_icmp_eq (tgt := 64) F dX6_isWord_59 (by decide +kernel) (by omega) (by omega) (fun c21 => ?_) (fun c21 => ?_)
            · refine z_iincN F dX6_isWord_64 (q := 2) rfl (by decide) (fun v22 ev22 => ?_)
              refine z_eq (ls' := [(2, ii v22), (0, .ref (ad 18)), (1, .ref (ad 1019))]) rfl rfl rfl ?_
              refine z_goto (tgt := 35) F dX6_isWord_67 (by decide +kernel) ?_
              refine z_loc [1, 2, 0] (ls' := [(0, .ref (ad 18)), (1, .ref (ad 1019)), (2, ii v22)]) rfl ?_
              exact ih35 v22 (by omega) (by omega) (by omega)
            · refine z_iconst F dX6_isWord_62 ?_
              exact hret _ _ 63 _ ⟨by omega, by omega⟩ ⟨hI, hW⟩ ⟨⟨by omega, by omega⟩, rfl⟩ dX6_isWord_63
      · refine z_iconst F dX6_isWord_31 ?_
        exact hret _ _ 32 _ ⟨by omega, by omega⟩ ⟨hI, hW⟩ ⟨⟨by omega, by omega⟩, rfl⟩ dX6_isWord_32
set_option maxHeartbeats 4000000 in
set_option maxRecDepth 4000 in
theorem kp_X6_isSign_18 (l : Launch) (M : Mem) (hJ : Iw M) (x0 : Int) (hx0a : (-2147483648) ≤ x0) (hx0b : x0 ≤ 2147483647) : CI l yX6_isSign cX6_isSign 2 (some .boolean) 1 (fun ad => [.ref (ad 18), ii x0]) M (fun z M' => (0 ≤ z ∧ z ≤ 1) ∧ M = M') := by
  obtain ⟨hI, hW⟩ := hJ
  refine en_z (by decide +kernel) (fun ad => by exact Nat.le_of_ble_eq_true rfl) (fun D cy ad A p e s m args below meth c Q F hret => ?_)
  refine z_eq (ls' := [(0, .ref (ad 18)), (1, ii x0)]) rfl rfl rfl ?_
  refine z_aload_n F dX6_isSign_0 rfl (q := 0) rfl ?_
  refine gf_X6_36 F hI gs_18 rfl bd_18_1 dX6_isSign_1 (fun v1 ev1 av1 bv1 => ?_)
  refine z_if_ne (tgt := 27) F dX6_isSign_4 (by decide +kernel) (by omega) (fun c2 => ?_) (fun c2 => ?_)
  · refine z_iconst F dX6_isSign_27 ?_
    exact hret _ _ 28 _ ⟨by omega, by omega⟩ ⟨hI, hW⟩ ⟨⟨by omega, by omega⟩, rfl⟩ dX6_isSign_28
  · refine z_aload_n F dX6_isSign_7 rfl (q := 0) rfl ?_
    refine gf_X6_48 F hI gs_18 rfl bd_18_7 dX6_isSign_8 (fun v3 ev3 av3 bv3 => ?_)
    refine z_iconst F dX6_isSign_11 ?_
    refine z_icmp_ne (tgt := 27) F dX6_isSign_12 (by decide +kernel) (by omega) (by omega) (fun c4 => ?_) (fun c4 => ?_)
    · refine z_iconst F dX6_isSign_27 ?_
      exact hret _ _ 28 _ ⟨by omega, by omega⟩ ⟨hI, hW⟩ ⟨⟨by omega, by omega⟩, rfl⟩ dX6_isSign_28
    · refine z_aload_n F dX6_isSign_15 rfl (q := 0) rfl ?_
      refine gf_X6_60 F hI gs_18 rfl bd_18_8 dX6_isSign_16 (fun v5 ev5 av5 bv5 => ?_)
      refine z_iload_n F dX6_isSign_19 rfl (q := 1) rfl ?_
      refine z_icmp_ne (tgt := 27) F dX6_isSign_20 (by decide +kernel) (by omega) (by omega) (fun c6 => ?_) (fun c6 => ?_)
      · refine z_iconst F dX6_isSign_27 ?_
        exact hret _ _ 28 _ ⟨by omega, by omega⟩ ⟨hI, hW⟩ ⟨⟨by omega, by omega⟩, rfl⟩ dX6_isSign_28
      · refine z_iconst F dX6_isSign_23 ?_
        refine z_goto (tgt := 28) F dX6_isSign_24 (by decide +kernel) ?_
        exact hret _ _ 28 _ ⟨by omega, by omega⟩ ⟨hI, hW⟩ ⟨⟨by omega, by omega⟩, rfl⟩ dX6_isSign_28
set_option maxHeartbeats 4000000 in
set_option maxRecDepth 4000 in
theorem kp_X6_comparisonHere_18 (l : Launch) (M : Mem) (hJ : Iw M) : CI l yX6_comparisonHere cX6_comparisonHere 1 (some .int) 2 (fun ad => [.ref (ad 18)]) M (fun z M' => ((-15) ≤ z ∧ z ≤ 0) ∧ M = M') := by
  obtain ⟨hI, hW⟩ := hJ
  refine en_i (by decide +kernel) (fun ad => by exact Nat.le_of_ble_eq_true rfl) (fun D cy ad A p e s m args below meth c Q F hret => ?_)
  refine z_eq (ls' := [(0, .ref (ad 18))]) rfl rfl rfl ?_
  refine z_aload_n F dX6_comparisonHere_0 rfl (q := 0) rfl ?_
  refine z_bipush F dX6_comparisonHere_1 (by decide +kernel) ?_
  refine zv_i (rest := []) F (kp_X6_isSign_18 l M ⟨hI, hW⟩ 61 (by omega) (by omega)) cs_X6_93 (T := TX6) (N := 9) (ci := 6) rfl gs_18 (by decide) (by decide) rfl rfl rfl (Nat.le_of_ble_eq_true rfl) dX6_comparisonHere_3 (fun v1 M2 rv1 hI p3 => ?_)
  obtain ⟨hI, hW⟩ := hI
  obtain ⟨⟨av1, bv1⟩, rfl⟩ := p3
  refine z_if_eq (tgt := 12) F dX6_comparisonHere_6 (by decide +kernel) (by omega) (fun c4 => ?_) (fun c4 => ?_)
  · refine z_aload_n F dX6_comparisonHere_12 rfl (q := 0) rfl ?_
    refine z_bipush F dX6_comparisonHere_13 (by decide +kernel) ?_
    refine zv_i (rest := []) F (kp_X6_isSign_18 l M ⟨hI, hW⟩ 60 (by omega) (by omega)) cs_X6_93 (T := TX6) (N := 9) (ci := 6) rfl gs_18 (by decide) (by decide) rfl rfl rfl (Nat.le_of_ble_eq_true rfl) dX6_comparisonHere_15 (fun v5 M6 rv5 hI p7 => ?_)
    obtain ⟨hI, hW⟩ := hI
    obtain ⟨⟨av5, bv5⟩, rfl⟩ := p7
    refine z_if_eq (tgt := 24) F dX6_comparisonHere_18 (by decide +kernel) (by omega) (fun c8 => ?_) (fun c8 => ?_)
    · refine z_aload_n F dX6_comparisonHere_24 rfl (q := 0) rfl ?_
      refine z_bipush F dX6_comparisonHere_25 (by decide +kernel) ?_
      refine zv_i (rest := []) F (kp_X6_isSign_18 l M ⟨hI, hW⟩ 62 (by omega) (by omega)) cs_X6_93 (T := TX6) (N := 9) (ci := 6) rfl gs_18 (by decide) (by decide) rfl rfl rfl (Nat.le_of_ble_eq_true rfl) dX6_comparisonHere_27 (fun v9 M10 rv9 hI p11 => ?_)
      obtain ⟨hI, hW⟩ := hI
      obtain ⟨⟨av9, bv9⟩, rfl⟩ := p11
      refine z_if_eq (tgt := 38) F dX6_comparisonHere_30 (by decide +kernel) (by omega) (fun c12 => ?_) (fun c12 => ?_)
      · refine z_iconst F dX6_comparisonHere_38 ?_
        exact hret _ _ 39 _ (by omega) ⟨hI, hW⟩ ⟨⟨by omega, by omega⟩, rfl⟩ dX6_comparisonHere_39
      · refine z_bipush F dX6_comparisonHere_33 (by decide +kernel) ?_
        refine z_goto (tgt := 39) F dX6_comparisonHere_35 (by decide +kernel) ?_
        exact hret _ _ 39 _ (by omega) ⟨hI, hW⟩ ⟨⟨by omega, by omega⟩, rfl⟩ dX6_comparisonHere_39
    · refine z_bipush F dX6_comparisonHere_21 (by decide +kernel) ?_
      exact hret _ _ 23 _ (by omega) ⟨hI, hW⟩ ⟨⟨by omega, by omega⟩, rfl⟩ dX6_comparisonHere_23
  · refine z_bipush F dX6_comparisonHere_9 (by decide +kernel) ?_
    exact hret _ _ 11 _ (by omega) ⟨hI, hW⟩ ⟨⟨by omega, by omega⟩, rfl⟩ dX6_comparisonHere_11
set_option maxHeartbeats 4000000 in
set_option maxRecDepth 4000 in
theorem kp_X6_fail_18 (l : Launch) (M : Mem) (hJ : Iw M) (x0 : Int) (hx0a : 1 ≤ x0) (hx0b : x0 ≤ 4) : CV l yX6_fail cX6_fail 2 none 1 (fun ad => [.ref (ad 18), ii x0]) M (fun M' => Fr [18] M M' ∧ (¬ M' 18 1 = 0 ∧ M' 18 4 = M 18 4 ∧ M' 18 5 = M 18 5 ∧ M' 18 6 = M 18 6)) := by
  obtain ⟨hI, hW⟩ := hJ
  have hF : Fr [18] M M := Fr.rf
  refine en_v (by decide +kernel) (fun ad => by exact Nat.le_of_ble_eq_true rfl) (fun D cy ad A p e s m args below meth c Q F hret => ?_)
  refine z_eq (ls' := [(0, .ref (ad 18)), (1, ii x0)]) rfl rfl rfl ?_
  refine z_aload_n F dX6_fail_0 rfl (q := 0) rfl ?_
  refine gf_X6_36 F hI gs_18 rfl bd_18_1 dX6_fail_1 (fun v1 ev1 av1 bv1 => ?_)
  refine z_if_ne (tgt := 20) F dX6_fail_4 (by decide +kernel) (by omega) (fun c2 => ?_) (fun c2 => ?_)
  · exact hret _ 20 _ ⟨hI, hW⟩ ⟨hF, (by omega)⟩ dX6_fail_20
  · refine z_aload_n F dX6_fail_7 rfl (q := 0) rfl ?_
    refine z_iload_n F dX6_fail_8 rfl (q := 1) rfl ?_
    refine pf_X6_36 F hI gs_18 rfl bd_18_1 rfl rfl dX6_fail_9 (by omega) (by omega) (fun M4 hI sf3 f3 => ?_)
    have tM4_18_4 : M4 18 4 = M 18 4 := f3 18 4 (fun q => absurd q.2 (by decide))
    have tM4_18_5 : M4 18 5 = M 18 5 := f3 18 5 (fun q => absurd q.2 (by decide))
    have tM4_18_6 : M4 18 6 = M 18 6 := f3 18 6 (fun q => absurd q.2 (by decide))
    have hF := hF.wr f3 (by decide) (by decide)
    have hW : WFk M4 := hW.site f3 (by decide)
    refine z_aload_n F dX6_fail_12 rfl (q := 0) rfl ?_
    refine z_aload_n F dX6_fail_13 rfl (q := 0) rfl ?_
    refine gf_X6_57 F hI gs_18 rfl bd_18_6 dX6_fail_14 (fun v5 ev5 av5 bv5 => ?_)
    refine pf_X6_18 F hI gs_18 rfl bd_18_2 rfl rfl dX6_fail_17 (by omega) (by omega) (fun M7 hI sf6 f6 => ?_)
    have tM7_18_1 : M7 18 1 = M4 18 1 := f6 18 1 (fun q => absurd q.2 (by decide))
    have tM7_18_4 : M7 18 4 = M4 18 4 := f6 18 4 (fun q => absurd q.2 (by decide))
    have tM7_18_5 : M7 18 5 = M4 18 5 := f6 18 5 (fun q => absurd q.2 (by decide))
    have tM7_18_6 : M7 18 6 = M4 18 6 := f6 18 6 (fun q => absurd q.2 (by decide))
    have hF := hF.wr f6 (by decide) (by decide)
    have hW : WFk M7 := hW.site f6 (by decide)
    exact hret _ 20 _ ⟨hI, hW⟩ ⟨hF, (by omega)⟩ dX6_fail_20
set_option maxHeartbeats 4000000 in
set_option maxRecDepth 4000 in
theorem kp_X6_refuse_18 (l : Launch) (M : Mem) (hJ : Iw M) : CV l yX6_refuse cX6_refuse 1 none 2 (fun ad => [.ref (ad 18)]) M (fun M' => Fr [18] M M' ∧ (¬ M' 18 1 = 0 ∧ M' 18 4 = M 18 4 ∧ M' 18 5 = M 18 5 ∧ M' 18 6 = M 18 6)) := by
  obtain ⟨hI, hW⟩ := hJ
  have hF : Fr [18] M M := Fr.rf
  refine en_v (by decide +kernel) (fun ad => by exact Nat.le_of_ble_eq_true rfl) (fun D cy ad A p e s m args below meth c Q F hret => ?_)
  refine z_eq (ls' := [(0, .ref (ad 18))]) rfl rfl rfl ?_
  refine z_aload_n F dX6_refuse_0 rfl (q := 0) rfl ?_
  refine z_aload_n F dX6_refuse_1 rfl (q := 0) rfl ?_
  refine gf_X6_48 F hI gs_18 rfl bd_18_7 dX6_refuse_2 (fun v1 ev1 av1 bv1 => ?_)
  refine z_iconst F dX6_refuse_5 ?_
  refine z_icmp_ne (tgt := 13) F dX6_refuse_6 (by decide +kernel) (by omega) (by omega) (fun c2 => ?_) (fun c2 => ?_)
  · refine z_iconst F dX6_refuse_13 ?_
    refine zv_v (rest := []) F (kp_X6_fail_18 l M ⟨hI, hW⟩ 2 (by omega) (by omega)) cs_X6_82 (T := TX6) (N := 9) (ci := 6) rfl gs_18 (by decide) (by decide) rfl rfl rfl (Nat.le_of_ble_eq_true rfl) dX6_refuse_14 (fun M3 hI p4 => ?_)
    obtain ⟨hI, hW⟩ := hI
    obtain ⟨fp4, xp4⟩ := p4
    have hF := hF.call fp4 (by decide)
    exact hret _ 17 _ ⟨hI, hW⟩ ⟨hF, (by omega)⟩ dX6_refuse_17
  · refine z_iconst F dX6_refuse_9 ?_
    refine z_goto (tgt := 14) F dX6_refuse_10 (by decide +kernel) ?_
    refine zv_v (rest := []) F (kp_X6_fail_18 l M ⟨hI, hW⟩ 1 (by omega) (by omega)) cs_X6_82 (T := TX6) (N := 9) (ci := 6) rfl gs_18 (by decide) (by decide) rfl rfl rfl (Nat.le_of_ble_eq_true rfl) dX6_refuse_14 (fun M5 hI p6 => ?_)
    obtain ⟨hI, hW⟩ := hI
    obtain ⟨fp6, xp6⟩ := p6
    have hF := hF.call fp6 (by decide)
    exact hret _ 17 _ ⟨hI, hW⟩ ⟨hF, (by omega)⟩ dX6_refuse_17
set_option maxHeartbeats 4000000 in
set_option maxRecDepth 4000 in
theorem kp_X6_goDeeper_18 (l : Launch) (M : Mem) (hJ : Iw M) (x0 : Int) (hx0a : 0 ≤ x0) (hx0b : x0 ≤ 6) (hp0 : M 18 6 ≤ M 18 5 ∧ M 18 5 ≤ M 18 4) : CI l yX6_goDeeper cX6_goDeeper 2 (some .boolean) 7 (fun ad => [.ref (ad 18), ii x0]) M (fun z M' => (0 ≤ z ∧ z ≤ 1) ∧ Fr [18] M M' ∧ (M' 18 4 = M 18 4 ∧ M' 18 6 ≤ M' 18 5 ∧ M' 18 5 ≤ M' 18 4 ∧ (z = 1 → x0 ≤ 5))) := by
  obtain ⟨hI, hW⟩ := hJ
  have hF : Fr [18] M M := Fr.rf
  refine en_z (by decide +kernel) (fun ad => by exact Nat.le_of_ble_eq_true rfl) (fun D cy ad A p e s m args below meth c Q F hret => ?_)
  refine z_eq (ls' := [(0, .ref (ad 18)), (1, ii x0)]) rfl rfl rfl ?_
  refine z_iload_n F dX6_goDeeper_0 rfl (q := 1) rfl ?_
  refine z_bipush F dX6_goDeeper_1 (by decide +kernel) ?_
  refine z_icmp_lt (tgt := 13) F dX6_goDeeper_3 (by decide +kernel) (by omega) (by omega) (fun c1 => ?_) (fun c1 => ?_)
  · refine z_aload_n F dX6_goDeeper_13 rfl (q := 0) rfl ?_
    refine zv_v (rest := []) F (kp_X6_advance_18 l M ⟨hI, hW⟩ (by omega)) cs_X6_42 (T := TX6) (N := 9) (ci := 6) rfl gs_18 (by decide) (by decide) rfl rfl rfl (Nat.le_of_ble_eq_true rfl) dX6_goDeeper_14 (fun M2 hI p3 => ?_)
    obtain ⟨hI, hW⟩ := hI
    obtain ⟨fp3, xp3⟩ := p3
    have hF := hF.call fp3 (by decide)
    refine z_iconst F dX6_goDeeper_17 ?_
    exact hret _ _ 18 _ ⟨by omega, by omega⟩ ⟨hI, hW⟩ ⟨⟨by omega, by omega⟩, hF, (by omega)⟩ dX6_goDeeper_18
  · refine z_aload_n F dX6_goDeeper_6 rfl (q := 0) rfl ?_
    refine z_iconst F dX6_goDeeper_7 ?_
    refine zv_v (rest := []) F (kp_X6_fail_18 l M ⟨hI, hW⟩ 4 (by omega) (by omega)) cs_X6_82 (T := TX6) (N := 9) (ci := 6) rfl gs_18 (by decide) (by decide) rfl rfl rfl (Nat.le_of_ble_eq_true rfl) dX6_goDeeper_8 (fun M4 hI p5 => ?_)
    obtain ⟨hI, hW⟩ := hI
    obtain ⟨fp5, xp5⟩ := p5
    have hF := hF.call fp5 (by decide)
    refine z_iconst F dX6_goDeeper_11 ?_
    exact hret _ _ 12 _ ⟨by omega, by omega⟩ ⟨hI, hW⟩ ⟨⟨by omega, by omega⟩, hF, (by omega)⟩ dX6_goDeeper_12
set_option maxHeartbeats 4000000 in
set_option maxRecDepth 4000 in
theorem kp_X6_needSign_18 (l : Launch) (M : Mem) (hJ : Iw M) (x0 : Int) (hx0a : (-2147483648) ≤ x0) (hx0b : x0 ≤ 2147483647) (hp0 : M 18 6 ≤ M 18 5 ∧ M 18 5 ≤ M 18 4) : CV l yX6_needSign cX6_needSign 2 none 7 (fun ad => [.ref (ad 18), ii x0]) M (fun M' => Fr [18] M M' ∧ (M' 18 4 = M 18 4 ∧ M' 18 6 ≤ M' 18 5 ∧ M' 18 5 ≤ M' 18 4 ∧ (M' 18 1 = 0 → M 18 1 = 0))) := by
  obtain ⟨hI, hW⟩ := hJ
  have hF : Fr [18] M M := Fr.rf
  refine en_v (by decide +kernel) (fun ad => by exact Nat.le_of_ble_eq_true rfl) (fun D cy ad A p e s m args below meth c Q F hret => ?_)
  refine z_eq (ls' := [(0, .ref (ad 18)), (1, ii x0)]) rfl rfl rfl ?_
  refine z_aload_n F dX6_needSign_0 rfl (q := 0) rfl ?_
  refine z_iload_n F dX6_needSign_1 rfl (q := 1) rfl ?_
  refine zv_i (rest := []) F (kp_X6_isSign_18 l M ⟨hI, hW⟩ x0 (by omega) (by omega)) cs_X6_93 (T := TX6) (N := 9) (ci := 6) rfl gs_18 (by decide) (by decide) rfl rfl rfl (Nat.le_of_ble_eq_true rfl) dX6_needSign_2 (fun v1 M2 rv1 hI p3 => ?_)
  obtain ⟨hI, hW⟩ := hI
  obtain ⟨⟨av1, bv1⟩, rfl⟩ := p3
  refine z_if_eq (tgt := 15) F dX6_needSign_5 (by decide +kernel) (by omega) (fun c4 => ?_) (fun c4 => ?_)
  · refine z_aload_n F dX6_needSign_15 rfl (q := 0) rfl ?_
    refine zv_v (rest := []) F (kp_X6_refuse_18 l M ⟨hI, hW⟩) cs_X6_90 (T := TX6) (N := 9) (ci := 6) rfl gs_18 (by decide) (by decide) rfl rfl rfl (Nat.le_of_ble_eq_true rfl) dX6_needSign_16 (fun M5 hI p6 => ?_)
    obtain ⟨hI, hW⟩ := hI
    obtain ⟨fp6, xp6⟩ := p6
    have hF := hF.call fp6 (by decide)
    exact hret _ 19 _ ⟨hI, hW⟩ ⟨hF, (by omega)⟩ dX6_needSign_19
  · refine z_aload_n F dX6_needSign_8 rfl (q := 0) rfl ?_
    refine zv_v (rest := []) F (kp_X6_advance_18 l M ⟨hI, hW⟩ (by omega)) cs_X6_42 (T := TX6) (N := 9) (ci := 6) rfl gs_18 (by decide) (by decide) rfl rfl rfl (Nat.le_of_ble_eq_true rfl) dX6_needSign_9 (fun M7 hI p8 => ?_)
    obtain ⟨hI, hW⟩ := hI
    obtain ⟨fp8, xp8⟩ := p8
    have hF := hF.call fp8 (by decide)
    refine z_goto (tgt := 19) F dX6_needSign_12 (by decide +kernel) ?_
    exact hret _ 19 _ ⟨hI, hW⟩ ⟨hF, (by omega)⟩ dX6_needSign_19
set_option maxHeartbeats 4000000 in
set_option maxRecDepth 4000 in
theorem kp_X6_readUnit_18 (l : Launch) (nr : Nat) (ih : RdX l nr) : ∀ (M : Mem) (hJ : Iw M) (x0 : Int) (hx0a : 0 ≤ x0) (hx0b : x0 ≤ 6) (hp0 : M 18 6 ≤ M 18 5 ∧ M 18 5 ≤ M 18 4) (hmu : (6 - x0) * 8 + 4 < ((nr + 1 : Nat) : Int)), CV l yX6_readUnit cX6_readUnit 3 none (12 + (nr + 1)) (fun ad => [.ref (ad 18), ii x0]) M (fun M' => Fr [18, 31, 32] M M' ∧ (M' 18 4 = M 18 4 ∧ M' 18 6 ≤ M' 18 5 ∧ M' 18 5 ≤ M' 18 4)) := by
  intro M hJ x0 hx0a hx0b hp0 hmu
  obtain ⟨hI, hW⟩ := hJ
  have hF : Fr [18, 31, 32] M M := Fr.rf
  refine en_v (by decide +kernel) (fun ad => by exact Nat.le_of_ble_eq_true rfl) (fun D cy ad A p e s m args below meth c Q F hret => ?_)
  refine z_eq (ls' := [(0, .ref (ad 18)), (1, ii x0)]) rfl rfl rfl ?_
  refine z_aload_n F dX6_readUnit_0 rfl (q := 0) rfl ?_
  refine z_ldcS (j := 19) F dX6_readUnit_1 rfl rfl rfl ?_
  refine z_eq (st' := [.ref (ad 1019), .ref (ad 18)]) rfl rfl rfl ?_
  refine zv_i (rest := []) F (kp_X6_isWord_18_1019 l M ⟨hI, hW⟩ (by omega)) cs_X6_86 (T := TX6) (N := 9) (ci := 6) rfl gs_18 (by omega) (by decide) rfl rfl rfl (Nat.le_of_ble_eq_true rfl) dX6_readUnit_3 (fun v1 M2 rv1 hI p3 => ?_)
  obtain ⟨hI, hW⟩ := hI
  obtain ⟨⟨av1, bv1⟩, rfl⟩ := p3
  refine z_if_eq (tgt := 39) F dX6_readUnit_6 (by decide +kernel) (by omega) (fun c4 => ?_) (fun c4 => ?_)
  · refine z_aload_n F dX6_readUnit_39 rfl (q := 0) rfl ?_
    refine z_bipush F dX6_readUnit_40 (by decide +kernel) ?_
    refine zv_i (rest := []) F (kp_X6_isSign_18 l M ⟨hI, hW⟩ 91 (by omega) (by omega)) cs_X6_93 (T := TX6) (N := 9) (ci := 6) rfl gs_18 (by omega) (by decide) rfl rfl rfl (Nat.le_of_ble_eq_true rfl) dX6_readUnit_42 (fun v5 M6 rv5 hI p7 => ?_)
    obtain ⟨hI, hW⟩ := hI
    obtain ⟨⟨av5, bv5⟩, rfl⟩ := p7
    refine z_if_eq (tgt := 72) F dX6_readUnit_45 (by decide +kernel) (by omega) (fun c8 => ?_) (fun c8 => ?_)
    · refine z_aload_n F dX6_readUnit_72 rfl (q := 0) rfl ?_
      refine z_iload_n F dX6_readUnit_73 rfl (q := 1) rfl ?_
      refine zv_v (rest := []) F (ih.2.2.2.1 M ⟨hI, hW⟩ x0 (by omega) (by omega) (by omega) (by omega)) cs_X6_253 (T := TX6) (N := 9) (ci := 6) rfl gs_18 (by omega) (by decide) rfl rfl rfl (Nat.le_of_ble_eq_true rfl) dX6_readUnit_74 (fun M9 hI p10 => ?_)
      obtain ⟨hI, hW⟩ := hI
      obtain ⟨fp10, xp10⟩ := p10
      have hF := hF.call fp10 (by decide)
      refine z_aload_n F dX6_readUnit_77 rfl (q := 0) rfl ?_
      refine zv_i (rest := []) F (kp_X6_comparisonHere_18 l M9 ⟨hI, hW⟩) cs_X6_256 (T := TX6) (N := 9) (ci := 6) rfl gs_18 (by omega) (by decide) rfl rfl rfl (Nat.le_of_ble_eq_true rfl) dX6_readUnit_78 (fun v11 M12 rv11 hI p13 => ?_)
      obtain ⟨hI, hW⟩ := hI
      obtain ⟨⟨av11, bv11⟩, rfl⟩ := p13
      refine z_istore_n F dX6_readUnit_81 rfl (by decide) (ls' := [(2, ii v11), (0, .ref (ad 18)), (1, ii x0)]) rfl ?_
      refine z_iload_n F dX6_readUnit_82 rfl (q := 0) rfl ?_
      refine z_if_ne (tgt := 93) F dX6_readUnit_83 (by decide +kernel) (by omega) (fun c14 => ?_) (fun c14 => ?_)
      · refine z_aload_n F dX6_readUnit_93 rfl (q := 1) rfl ?_
        refine zv_v (rest := []) F (kp_X6_advance_18 l M9 ⟨hI, hW⟩ (by omega)) cs_X6_42 (T := TX6) (N := 9) (ci := 6) rfl gs_18 (by omega) (by decide) rfl rfl rfl (Nat.le_of_ble_eq_true rfl) dX6_readUnit_94 (fun M15 hI p16 => ?_)
        obtain ⟨hI, hW⟩ := hI
        obtain ⟨fp16, xp16⟩ := p16
        have hF := hF.call fp16 (by decide)
        refine z_aload_n F dX6_readUnit_97 rfl (q := 1) rfl ?_
        refine z_iload_n F dX6_readUnit_98 rfl (q := 2) rfl ?_
        refine zv_v (rest := []) F (ih.2.2.2.1 M15 ⟨hI, hW⟩ x0 (by omega) (by omega) (by omega) (by omega)) cs_X6_253 (T := TX6) (N := 9) (ci := 6) rfl gs_18 (by omega) (by decide) rfl rfl rfl (Nat.le_of_ble_eq_true rfl) dX6_readUnit_99 (fun M17 hI p18 => ?_)
        obtain ⟨hI, hW⟩ := hI
        obtain ⟨fp18, xp18⟩ := p18
        have hF := hF.call fp18 (by decide)
        refine z_aload_n F dX6_readUnit_102 rfl (q := 1) rfl ?_
        refine rf_X6_12 F gs_18 rfl dX6_readUnit_103 ?_
        refine rf_X6_152 F gs_19 rfl dX6_readUnit_106 ?_
        refine z_iload_n F dX6_readUnit_109 rfl (q := 0) rfl ?_
        refine zv_v (rest := []) F (k_X2_append_31 l M17 ⟨hI, hW⟩ v11 (by omega) (by omega)) cs_X6_239 (T := TX2) (N := 5) (ci := 2) rfl gs_31 (by omega) (by decide) rfl rfl rfl (Nat.le_of_ble_eq_true rfl) dX6_readUnit_110 (fun M19 hI p20 => ?_)
        obtain ⟨hI, hW⟩ := hI
        have fp20 := p20
        have hF := hF.call fp20 (by decide)
        have tM19_18_1 : M19 18 1 = M17 18 1 := fp20.at (by decide)
        have tM19_18_4 : M19 18 4 = M17 18 4 := fp20.at (by decide)
        have tM19_18_5 : M19 18 5 = M17 18 5 := fp20.at (by decide)
        have tM19_18_6 : M19 18 6 = M17 18 6 := fp20.at (by decide)
        exact hret _ 113 _ ⟨hI, hW⟩ ⟨hF, (by omega)⟩ dX6_readUnit_113
      · refine z_aload_n F dX6_readUnit_86 rfl (q := 1) rfl ?_
        refine zv_v (rest := []) F (kp_X6_refuse_18 l M9 ⟨hI, hW⟩) cs_X6_90 (T := TX6) (N := 9) (ci := 6) rfl gs_18 (by omega) (by decide) rfl rfl rfl (Nat.le_of_ble_eq_true rfl) dX6_readUnit_87 (fun M21 hI p22 => ?_)
        obtain ⟨hI, hW⟩ := hI
        obtain ⟨fp22, xp22⟩ := p22
        have hF := hF.call fp22 (by decide)
        refine z_goto (tgt := 97) F dX6_readUnit_90 (by decide +kernel) ?_
        refine z_aload_n F dX6_readUnit_97 rfl (q := 1) rfl ?_
        refine z_iload_n F dX6_readUnit_98 rfl (q := 2) rfl ?_
        refine zv_v (rest := []) F (ih.2.2.2.1 M21 ⟨hI, hW⟩ x0 (by omega) (by omega) (by omega) (by omega)) cs_X6_253 (T := TX6) (N := 9) (ci := 6) rfl gs_18 (by omega) (by decide) rfl rfl rfl (Nat.le_of_ble_eq_true rfl) dX6_readUnit_99 (fun M23 hI p24 => ?_)
        obtain ⟨hI, hW⟩ := hI
        obtain ⟨fp24, xp24⟩ := p24
        have hF := hF.call fp24 (by decide)
        refine z_aload_n F dX6_readUnit_102 rfl (q := 1) rfl ?_
        refine rf_X6_12 F gs_18 rfl dX6_readUnit_103 ?_
        refine rf_X6_152 F gs_19 rfl dX6_readUnit_106 ?_
        refine z_iload_n F dX6_readUnit_109 rfl (q := 0) rfl ?_
        refine zv_v (rest := []) F (k_X2_append_31 l M23 ⟨hI, hW⟩ v11 (by omega) (by omega)) cs_X6_239 (T := TX2) (N := 5) (ci := 2) rfl gs_31 (by omega) (by decide) rfl rfl rfl (Nat.le_of_ble_eq_true rfl) dX6_readUnit_110 (fun M25 hI p26 => ?_)
        obtain ⟨hI, hW⟩ := hI
        have fp26 := p26
        have hF := hF.call fp26 (by decide)
        have tM25_18_1 : M25 18 1 = M23 18 1 := fp26.at (by decide)
        have tM25_18_4 : M25 18 4 = M23 18 4 := fp26.at (by decide)
        have tM25_18_5 : M25 18 5 = M23 18 5 := fp26.at (by decide)
        have tM25_18_6 : M25 18 6 = M23 18 6 := fp26.at (by decide)
        exact hret _ 113 _ ⟨hI, hW⟩ ⟨hF, (by omega)⟩ dX6_readUnit_113
    · refine z_aload_n F dX6_readUnit_48 rfl (q := 0) rfl ?_
      refine z_iload_n F dX6_readUnit_49 rfl (q := 1) rfl ?_
      refine zv_i (rest := []) F (kp_X6_goDeeper_18 l M ⟨hI, hW⟩ x0 (by omega) (by omega) (by omega)) cs_X6_249 (T := TX6) (N := 9) (ci := 6) rfl gs_18 (by omega) (by decide) rfl rfl rfl (Nat.le_of_ble_eq_true rfl) dX6_readUnit_50 (fun v27 M28 rv27 hI p29 => ?_)
      obtain ⟨hI, hW⟩ := hI
      obtain ⟨⟨av27, bv27⟩, fp29, xp29⟩ := p29
      have hF := hF.call fp29 (by decide)
      refine z_if_eq (tgt := 113) F dX6_readUnit_53 (by decide +kernel) (by omega) (fun c30 => ?_) (fun c30 => ?_)
      · exact hret _ 113 _ ⟨hI, hW⟩ ⟨hF, (by omega)⟩ dX6_readUnit_113
      · refine z_aload_n F dX6_readUnit_56 rfl (q := 0) rfl ?_
        refine z_iload_n F dX6_readUnit_57 rfl (q := 1) rfl ?_
        refine z_iconst F dX6_readUnit_58 ?_
        refine z_iadd F dX6_readUnit_59 ?_
        refine zv_v (rest := []) F (ih.1 M28 ⟨hI, hW⟩ (x0 + 1) (by omega) (by omega) (by omega) (by omega)) cs_X6_160 (T := TX6) (N := 9) (ci := 6) rfl gs_18 (by omega) (by decide) rfl rfl rfl (Nat.le_of_ble_eq_true rfl) dX6_readUnit_60 (fun M31 hI p32 => ?_)
        obtain ⟨hI, hW⟩ := hI
        obtain ⟨fp32, xp32⟩ := p32
        have hF := hF.call fp32 (by decide)
        refine z_aload_n F dX6_readUnit_63 rfl (q := 0) rfl ?_
        refine z_bipush F dX6_readUnit_64 (by decide +kernel) ?_
        refine zv_v (rest := []) F (kp_X6_needSign_18 l M31 ⟨hI, hW⟩ 93 (by omega) (by omega) (by omega)) cs_X6_120 (T := TX6) (N := 9) (ci := 6) rfl gs_18 (by omega) (by decide) rfl rfl rfl (Nat.le_of_ble_eq_true rfl) dX6_readUnit_66 (fun M33 hI p34 => ?_)
        obtain ⟨hI, hW⟩ := hI
        obtain ⟨fp34, xp34⟩ := p34
        have hF := hF.call fp34 (by decide)
        refine z_goto (tgt := 113) F dX6_readUnit_69 (by decide +kernel) ?_
        exact hret _ 113 _ ⟨hI, hW⟩ ⟨hF, (by omega)⟩ dX6_readUnit_113
  · refine z_aload_n F dX6_readUnit_9 rfl (q := 0) rfl ?_
    refine z_iload_n F dX6_readUnit_10 rfl (q := 1) rfl ?_
    refine zv_i (rest := []) F (kp_X6_goDeeper_18 l M ⟨hI, hW⟩ x0 (by omega) (by omega) (by omega)) cs_X6_249 (T := TX6) (N := 9) (ci := 6) rfl gs_18 (by omega) (by decide) rfl rfl rfl (Nat.le_of_ble_eq_true rfl) dX6_readUnit_11 (fun v35 M36 rv35 hI p37 => ?_)
    obtain ⟨hI, hW⟩ := hI
    obtain ⟨⟨av35, bv35⟩, fp37, xp37⟩ := p37
    have hF := hF.call fp37 (by decide)
    refine z_if_eq (tgt := 113) F dX6_readUnit_14 (by decide +kernel) (by omega) (fun c38 => ?_) (fun c38 => ?_)
    · exact hret _ 113 _ ⟨hI, hW⟩ ⟨hF, (by omega)⟩ dX6_readUnit_113
    · refine z_aload_n F dX6_readUnit_17 rfl (q := 0) rfl ?_
      refine z_iload_n F dX6_readUnit_18 rfl (q := 1) rfl ?_
      refine z_iconst F dX6_readUnit_19 ?_
      refine z_iadd F dX6_readUnit_20 ?_
      refine zv_v (rest := []) F (ih.2.2.1 M36 ⟨hI, hW⟩ (x0 + 1) (by omega) (by omega) (by omega) (by omega)) cs_X6_242 (T := TX6) (N := 9) (ci := 6) rfl gs_18 (by omega) (by decide) rfl rfl rfl (Nat.le_of_ble_eq_true rfl) dX6_readUnit_21 (fun M39 hI p40 => ?_)
      obtain ⟨hI, hW⟩ := hI
      obtain ⟨fp40, xp40⟩ := p40
      have hF := hF.call fp40 (by decide)
      refine z_aload_n F dX6_readUnit_24 rfl (q := 0) rfl ?_
      refine rf_X6_12 F gs_18 rfl dX6_readUnit_25 ?_
      refine rf_X6_152 F gs_19 rfl dX6_readUnit_28 ?_
      refine z_bipush F dX6_readUnit_31 (by decide +kernel) ?_
      refine zv_v (rest := []) F (k_X2_append_31 l M39 ⟨hI, hW⟩ (-9) (by omega) (by omega)) cs_X6_239 (T := TX2) (N := 5) (ci := 2) rfl gs_31 (by omega) (by decide) rfl rfl rfl (Nat.le_of_ble_eq_true rfl) dX6_readUnit_33 (fun M41 hI p42 => ?_)
      obtain ⟨hI, hW⟩ := hI
      have fp42 := p42
      have hF := hF.call fp42 (by decide)
      have tM41_18_1 : M41 18 1 = M39 18 1 := fp42.at (by decide)
      have tM41_18_4 : M41 18 4 = M39 18 4 := fp42.at (by decide)
      have tM41_18_5 : M41 18 5 = M39 18 5 := fp42.at (by decide)
      have tM41_18_6 : M41 18 6 = M39 18 6 := fp42.at (by decide)
      refine z_goto (tgt := 113) F dX6_readUnit_36 (by decide +kernel) ?_
      exact hret _ 113 _ ⟨hI, hW⟩ ⟨hF, (by omega)⟩ dX6_readUnit_113
