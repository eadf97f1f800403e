theorem dX12_goesIn_0 : decode cX12_goesIn 0 = .ok (.aload_n 0, 1) := by decide +kernel
theorem dX12_goesIn_1 : decode cX12_goesIn 1 = .ok (.getfield 141, 3) := by decide +kernel
theorem dX12_goesIn_10 : decode cX12_goesIn 10 = .ok (.iconst 4, 1) := by decide +kernel
theorem dX12_goesIn_11 : decode cX12_goesIn 11 = .ok (.invokevirtual 133, 3) := by decide +kernel
theorem dX12_goesIn_14 : decode cX12_goesIn 14 = .ok (.aload_n 0, 1) := by decide +kernel
theorem dX12_goesIn_15 : decode cX12_goesIn 15 = .ok (.dup, 1) := by decide +kernel
theorem dX12_goesIn_16 : decode cX12_goesIn 16 = .ok (.getfield 141, 3) := by decide +kernel
theorem dX12_goesIn_19 : decode cX12_goesIn 19 = .ok (.iconst 1, 1) := by decide +kernel
theorem dX12_goesIn_20 : decode cX12_goesIn 20 = .ok (.iadd, 1) := by decide +kernel
theorem dX12_goesIn_21 : decode cX12_goesIn 21 = .ok (.putfield 141, 3) := by decide +kernel
theorem dX12_goesIn_24 : decode cX12_goesIn 24 = .ok (.aload_n 0, 1) := by decide +kernel
theorem dX12_goesIn_25 : decode cX12_goesIn 25 = .ok (.getfield 108, 3) := by decide +kernel
theorem dX12_goesIn_28 : decode cX12_goesIn 28 = .ok (.ifCond .ne 7, 3) := by decide +kernel
theorem dX12_goesIn_31 : decode cX12_goesIn 31 = .ok (.aload_n 0, 1) := by decide +kernel
theorem dX12_goesIn_32 : decode cX12_goesIn 32 = .ok (.invokevirtual 127, 3) := by decide +kernel
theorem dX12_goesIn_35 : decode cX12_goesIn 35 = .ok (.return_, 1) := by decide +kernel
theorem dX12_goesIn_4 : decode cX12_goesIn 4 = .ok (.bipush 6, 2) := by decide +kernel
theorem dX12_goesIn_6 : decode cX12_goesIn 6 = .ok (.if_icmp .ne 8, 3) := by decide +kernel
theorem dX12_goesIn_9 : decode cX12_goesIn 9 = .ok (.aload_n 0, 1) := by decide +kernel
theorem dX12_isWord_0 : decode cX12_isWord 0 = .ok (.aload_n 0, 1) := by decide +kernel
theorem dX12_isWord_1 : decode cX12_isWord 1 = .ok (.getfield 108, 3) := by decide +kernel
theorem dX12_isWord_11 : decode cX12_isWord 11 = .ok (.iconst 1, 1) := by decide +kernel
theorem dX12_isWord_12 : decode cX12_isWord 12 = .ok (.if_icmp .ne 23, 3) := by decide +kernel
theorem dX12_isWord_15 : decode cX12_isWord 15 = .ok (.aload_n 0, 1) := by decide +kernel
theorem dX12_isWord_16 : decode cX12_isWord 16 = .ok (.getfield 82, 3) := by decide +kernel
theorem dX12_isWord_19 : decode cX12_isWord 19 = .ok (.aload_n 0, 1) := by decide +kernel
theorem dX12_isWord_20 : decode cX12_isWord 20 = .ok (.getfield 85, 3) := by decide +kernel
theorem dX12_isWord_23 : decode cX12_isWord 23 = .ok (.isub, 1) := by decide +kernel
theorem dX12_isWord_24 : decode cX12_isWord 24 = .ok (.aload_n 1, 1) := by decide +kernel
theorem dX12_isWord_25 : decode cX12_isWord 25 = .ok (.invokevirtual 114, 3) := by decide +kernel
theorem dX12_isWord_28 : decode cX12_isWord 28 = .ok (.if_icmp .ne 7, 3) := by decide +kernel
theorem dX12_isWord_31 : decode cX12_isWord 31 = .ok (.iconst 1, 1) := by decide +kernel
theorem dX12_isWord_32 : decode cX12_isWord 32 = .ok (.goto 4, 3) := by decide +kernel
theorem dX12_isWord_35 : decode cX12_isWord 35 = .ok (.iconst 0, 1) := by decide +kernel
theorem dX12_isWord_36 : decode cX12_isWord 36 = .ok (.istore_n 2, 1) := by decide +kernel
theorem dX12_isWord_37 : decode cX12_isWord 37 = .ok (.iconst 0, 1) := by decide +kernel
theorem dX12_isWord_38 : decode cX12_isWord 38 = .ok (.istore_n 3, 1) := by decide +kernel
theorem dX12_isWord_39 : decode cX12_isWord 39 = .ok (.iload_n 2, 1) := by decide +kernel
theorem dX12_isWord_4 : decode cX12_isWord 4 = .ok (.ifCond .ne 31, 3) := by decide +kernel
theorem dX12_isWord_40 : decode cX12_isWord 40 = .ok (.ifCond .eq 42, 3) := by decide +kernel
theorem dX12_isWord_43 : decode cX12_isWord 43 = .ok (.iload_n 3, 1) := by decide +kernel
theorem dX12_isWord_44 : decode cX12_isWord 44 = .ok (.aload_n 1, 1) := by decide +kernel
theorem dX12_isWord_45 : decode cX12_isWord 45 = .ok (.invokevirtual 114, 3) := by decide +kernel
theorem dX12_isWord_48 : decode cX12_isWord 48 = .ok (.if_icmp .ge 34, 3) := by decide +kernel
theorem dX12_isWord_51 : decode cX12_isWord 51 = .ok (.aload_n 0, 1) := by decide +kernel
theorem dX12_isWord_52 : decode cX12_isWord 52 = .ok (.getfield 23, 3) := by decide +kernel
theorem dX12_isWord_55 : decode cX12_isWord 55 = .ok (.aload_n 0, 1) := by decide +kernel
theorem dX12_isWord_56 : decode cX12_isWord 56 = .ok (.getfield 85, 3) := by decide +kernel
theorem dX12_isWord_59 : decode cX12_isWord 59 = .ok (.iload_n 3, 1) := by decide +kernel
theorem dX12_isWord_60 : decode cX12_isWord 60 = .ok (.iadd, 1) := by decide +kernel
theorem dX12_isWord_61 : decode cX12_isWord 61 = .ok (.iaload, 1) := by decide +kernel
theorem dX12_isWord_62 : decode cX12_isWord 62 = .ok (.aload_n 1, 1) := by decide +kernel
theorem dX12_isWord_63 : decode cX12_isWord 63 = .ok (.iload_n 3, 1) := by decide +kernel
theorem dX12_isWord_64 : decode cX12_isWord 64 = .ok (.invokevirtual 119, 3) := by decide +kernel
theorem dX12_isWord_67 : decode cX12_isWord 67 = .ok (.if_icmp .ne 7, 3) := by decide +kernel
theorem dX12_isWord_7 : decode cX12_isWord 7 = .ok (.aload_n 0, 1) := by decide +kernel
theorem dX12_isWord_70 : decode cX12_isWord 70 = .ok (.iconst 1, 1) := by decide +kernel
theorem dX12_isWord_71 : decode cX12_isWord 71 = .ok (.goto 4, 3) := by decide +kernel
theorem dX12_isWord_74 : decode cX12_isWord 74 = .ok (.iconst 0, 1) := by decide +kernel
theorem dX12_isWord_75 : decode cX12_isWord 75 = .ok (.istore_n 2, 1) := by decide +kernel
theorem dX12_isWord_76 : decode cX12_isWord 76 = .ok (.iinc 3 1, 3) := by decide +kernel
theorem dX12_isWord_79 : decode cX12_isWord 79 = .ok (.goto (-40), 3) := by decide +kernel
theorem dX12_isWord_8 : decode cX12_isWord 8 = .ok (.getfield 88, 3) := by decide +kernel
theorem dX12_isWord_82 : decode cX12_isWord 82 = .ok (.iload_n 2, 1) := by decide +kernel
theorem dX12_isWord_83 : decode cX12_isWord 83 = .ok (.ireturn, 1) := by decide +kernel
theorem dX12_laysStep_0 : decode cX12_laysStep 0 = .ok (.aload_n 0, 1) := by decide +kernel
theorem dX12_laysStep_1 : decode cX12_laysStep 1 = .ok (.getfield 108, 3) := by decide +kernel
theorem dX12_laysStep_12 : decode cX12_laysStep 12 = .ok (.sipush 384, 3) := by decide +kernel
theorem dX12_laysStep_15 : decode cX12_laysStep 15 = .ok (.aload_n 0, 1) := by decide +kernel
theorem dX12_laysStep_16 : decode cX12_laysStep 16 = .ok (.getfield 13, 3) := by decide +kernel
theorem dX12_laysStep_19 : decode cX12_laysStep 19 = .ok (.bipush 6, 2) := by decide +kernel
theorem dX12_laysStep_21 : decode cX12_laysStep 21 = .ok (.iaload, 1) := by decide +kernel
theorem dX12_laysStep_22 : decode cX12_laysStep 22 = .ok (.iadd, 1) := by decide +kernel
theorem dX12_laysStep_23 : decode cX12_laysStep 23 = .ok (.iload_n 1, 1) := by decide +kernel
theorem dX12_laysStep_24 : decode cX12_laysStep 24 = .ok (.iastore, 1) := by decide +kernel
theorem dX12_laysStep_25 : decode cX12_laysStep 25 = .ok (.aload_n 0, 1) := by decide +kernel
theorem dX12_laysStep_26 : decode cX12_laysStep 26 = .ok (.getfield 13, 3) := by decide +kernel
theorem dX12_laysStep_29 : decode cX12_laysStep 29 = .ok (.bipush 6, 2) := by decide +kernel
theorem dX12_laysStep_31 : decode cX12_laysStep 31 = .ok (.dup2, 1) := by decide +kernel
theorem dX12_laysStep_32 : decode cX12_laysStep 32 = .ok (.iaload, 1) := by decide +kernel
theorem dX12_laysStep_33 : decode cX12_laysStep 33 = .ok (.iconst 1, 1) := by decide +kernel
theorem dX12_laysStep_34 : decode cX12_laysStep 34 = .ok (.iadd, 1) := by decide +kernel
theorem dX12_laysStep_35 : decode cX12_laysStep 35 = .ok (.iastore, 1) := by decide +kernel
theorem dX12_laysStep_36 : decode cX12_laysStep 36 = .ok (.return_, 1) := by decide +kernel
theorem dX12_laysStep_4 : decode cX12_laysStep 4 = .ok (.ifCond .eq 4, 3) := by decide +kernel
theorem dX12_laysStep_7 : decode cX12_laysStep 7 = .ok (.return_, 1) := by decide +kernel
theorem dX12_laysStep_8 : decode cX12_laysStep 8 = .ok (.aload_n 0, 1) := by decide +kernel
theorem dX12_laysStep_9 : decode cX12_laysStep 9 = .ok (.getfield 13, 3) := by decide +kernel
theorem dX12_readsOn_0 : decode cX12_readsOn 0 = .ok (.aload_n 0, 1) := by decide +kernel
theorem dX12_readsOn_1 : decode cX12_readsOn 1 = .ok (.getfield 82, 3) := by decide +kernel
theorem dX12_readsOn_102 : decode cX12_readsOn 102 = .ok (.invokestatic 91, 3) := by decide +kernel
theorem dX12_readsOn_105 : decode cX12_readsOn 105 = .ok (.ifCond .eq 16, 3) := by decide +kernel
theorem dX12_readsOn_108 : decode cX12_readsOn 108 = .ok (.aload_n 0, 1) := by decide +kernel
theorem dX12_readsOn_109 : decode cX12_readsOn 109 = .ok (.dup, 1) := by decide +kernel
theorem dX12_readsOn_11 : decode cX12_readsOn 11 = .ok (.aload_n 0, 1) := by decide +kernel
theorem dX12_readsOn_110 : decode cX12_readsOn 110 = .ok (.getfield 82, 3) := by decide +kernel
theorem dX12_readsOn_113 : decode cX12_readsOn 113 = .ok (.iconst 1, 1) := by decide +kernel
theorem dX12_readsOn_114 : decode cX12_readsOn 114 = .ok (.iadd, 1) := by decide +kernel
theorem dX12_readsOn_115 : decode cX12_readsOn 115 = .ok (.putfield 82, 3) := by decide +kernel
theorem dX12_readsOn_118 : decode cX12_readsOn 118 = .ok (.goto (-24), 3) := by decide +kernel
theorem dX12_readsOn_12 : decode cX12_readsOn 12 = .ok (.getfield 23, 3) := by decide +kernel
theorem dX12_readsOn_121 : decode cX12_readsOn 121 = .ok (.aload_n 0, 1) := by decide +kernel
theorem dX12_readsOn_122 : decode cX12_readsOn 122 = .ok (.iconst 1, 1) := by decide +kernel
theorem dX12_readsOn_123 : decode cX12_readsOn 123 = .ok (.putfield 88, 3) := by decide +kernel
theorem dX12_readsOn_126 : decode cX12_readsOn 126 = .ok (.goto 137, 3) := by decide +kernel
theorem dX12_readsOn_129 : decode cX12_readsOn 129 = .ok (.iload_n 1, 1) := by decide +kernel
theorem dX12_readsOn_130 : decode cX12_readsOn 130 = .ok (.invokestatic 99, 3) := by decide +kernel
theorem dX12_readsOn_133 : decode cX12_readsOn 133 = .ok (.ifCond .eq 104, 3) := by decide +kernel
theorem dX12_readsOn_136 : decode cX12_readsOn 136 = .ok (.aload_n 0, 1) := by decide +kernel
theorem dX12_readsOn_137 : decode cX12_readsOn 137 = .ok (.iconst 0, 1) := by decide +kernel
theorem dX12_readsOn_138 : decode cX12_readsOn 138 = .ok (.putfield 102, 3) := by decide +kernel
theorem dX12_readsOn_141 : decode cX12_readsOn 141 = .ok (.aload_n 0, 1) := by decide +kernel
theorem dX12_readsOn_142 : decode cX12_readsOn 142 = .ok (.aload_n 0, 1) := by decide +kernel
theorem dX12_readsOn_143 : decode cX12_readsOn 143 = .ok (.getfield 82, 3) := by decide +kernel
theorem dX12_readsOn_146 : decode cX12_readsOn 146 = .ok (.invokevirtual 95, 3) := by decide +kernel
theorem dX12_readsOn_149 : decode cX12_readsOn 149 = .ok (.invokestatic 99, 3) := by decide +kernel
theorem dX12_readsOn_15 : decode cX12_readsOn 15 = .ok (.aload_n 0, 1) := by decide +kernel
theorem dX12_readsOn_152 : decode cX12_readsOn 152 = .ok (.ifCond .eq 60, 3) := by decide +kernel
theorem dX12_readsOn_155 : decode cX12_readsOn 155 = .ok (.aload_n 0, 1) := by decide +kernel
theorem dX12_readsOn_156 : decode cX12_readsOn 156 = .ok (.aload_n 0, 1) := by decide +kernel
theorem dX12_readsOn_157 : decode cX12_readsOn 157 = .ok (.getfield 82, 3) := by decide +kernel
theorem dX12_readsOn_16 : decode cX12_readsOn 16 = .ok (.getfield 82, 3) := by decide +kernel
theorem dX12_readsOn_160 : decode cX12_readsOn 160 = .ok (.aload_n 0, 1) := by decide +kernel
theorem dX12_readsOn_161 : decode cX12_readsOn 161 = .ok (.getfield 85, 3) := by decide +kernel
theorem dX12_readsOn_164 : decode cX12_readsOn 164 = .ok (.isub, 1) := by decide +kernel
theorem dX12_readsOn_165 : decode cX12_readsOn 165 = .ok (.iconst 3, 1) := by decide +kernel
theorem dX12_readsOn_166 : decode cX12_readsOn 166 = .ok (.if_icmp .ge 26, 3) := by decide +kernel
theorem dX12_readsOn_169 : decode cX12_readsOn 169 = .ok (.bipush 10, 2) := by decide +kernel
theorem dX12_readsOn_171 : decode cX12_readsOn 171 = .ok (.aload_n 0, 1) := by decide +kernel
theorem dX12_readsOn_172 : decode cX12_readsOn 172 = .ok (.getfield 102, 3) := by decide +kernel
theorem dX12_readsOn_175 : decode cX12_readsOn 175 = .ok (.imul, 1) := by decide +kernel
theorem dX12_readsOn_176 : decode cX12_readsOn 176 = .ok (.aload_n 0, 1) := by decide +kernel
theorem dX12_readsOn_177 : decode cX12_readsOn 177 = .ok (.getfield 23, 3) := by decide +kernel
theorem dX12_readsOn_180 : decode cX12_readsOn 180 = .ok (.aload_n 0, 1) := by decide +kernel
theorem dX12_readsOn_181 : decode cX12_readsOn 181 = .ok (.getfield 82, 3) := by decide +kernel
theorem dX12_readsOn_184 : decode cX12_readsOn 184 = .ok (.iaload, 1) := by decide +kernel
theorem dX12_readsOn_185 : decode cX12_readsOn 185 = .ok (.iadd, 1) := by decide +kernel
theorem dX12_readsOn_186 : decode cX12_readsOn 186 = .ok (.bipush 48, 2) := by decide +kernel
theorem dX12_readsOn_188 : decode cX12_readsOn 188 = .ok (.isub, 1) := by decide +kernel
theorem dX12_readsOn_189 : decode cX12_readsOn 189 = .ok (.goto 7, 3) := by decide +kernel
theorem dX12_readsOn_19 : decode cX12_readsOn 19 = .ok (.iaload, 1) := by decide +kernel
theorem dX12_readsOn_192 : decode cX12_readsOn 192 = .ok (.aload_n 0, 1) := by decide +kernel
theorem dX12_readsOn_193 : decode cX12_readsOn 193 = .ok (.getfield 102, 3) := by decide +kernel
theorem dX12_readsOn_196 : decode cX12_readsOn 196 = .ok (.putfield 102, 3) := by decide +kernel
theorem dX12_readsOn_199 : decode cX12_readsOn 199 = .ok (.aload_n 0, 1) := by decide +kernel
theorem dX12_readsOn_20 : decode cX12_readsOn 20 = .ok (.bipush 32, 2) := by decide +kernel
theorem dX12_readsOn_200 : decode cX12_readsOn 200 = .ok (.dup, 1) := by decide +kernel
theorem dX12_readsOn_201 : decode cX12_readsOn 201 = .ok (.getfield 82, 3) := by decide +kernel
theorem dX12_readsOn_204 : decode cX12_readsOn 204 = .ok (.iconst 1, 1) := by decide +kernel
theorem dX12_readsOn_205 : decode cX12_readsOn 205 = .ok (.iadd, 1) := by decide +kernel
theorem dX12_readsOn_206 : decode cX12_readsOn 206 = .ok (.putfield 82, 3) := by decide +kernel
theorem dX12_readsOn_209 : decode cX12_readsOn 209 = .ok (.goto (-68), 3) := by decide +kernel
theorem dX12_readsOn_212 : decode cX12_readsOn 212 = .ok (.aload_n 0, 1) := by decide +kernel
theorem dX12_readsOn_213 : decode cX12_readsOn 213 = .ok (.aload_n 0, 1) := by decide +kernel
theorem dX12_readsOn_214 : decode cX12_readsOn 214 = .ok (.getfield 82, 3) := by decide +kernel
theorem dX12_readsOn_217 : decode cX12_readsOn 217 = .ok (.aload_n 0, 1) := by decide +kernel
theorem dX12_readsOn_218 : decode cX12_readsOn 218 = .ok (.getfield 85, 3) := by decide +kernel
theorem dX12_readsOn_22 : decode cX12_readsOn 22 = .ok (.if_icmp .eq 17, 3) := by decide +kernel
theorem dX12_readsOn_221 : decode cX12_readsOn 221 = .ok (.isub, 1) := by decide +kernel
theorem dX12_readsOn_222 : decode cX12_readsOn 222 = .ok (.iconst 3, 1) := by decide +kernel
theorem dX12_readsOn_223 : decode cX12_readsOn 223 = .ok (.if_icmp .le 7, 3) := by decide +kernel
theorem dX12_readsOn_226 : decode cX12_readsOn 226 = .ok (.iconst 3, 1) := by decide +kernel
theorem dX12_readsOn_227 : decode cX12_readsOn 227 = .ok (.goto 4, 3) := by decide +kernel
theorem dX12_readsOn_230 : decode cX12_readsOn 230 = .ok (.iconst 2, 1) := by decide +kernel
theorem dX12_readsOn_231 : decode cX12_readsOn 231 = .ok (.putfield 88, 3) := by decide +kernel
theorem dX12_readsOn_234 : decode cX12_readsOn 234 = .ok (.goto 29, 3) := by decide +kernel
theorem dX12_readsOn_237 : decode cX12_readsOn 237 = .ok (.aload_n 0, 1) := by decide +kernel
theorem dX12_readsOn_238 : decode cX12_readsOn 238 = .ok (.iload_n 1, 1) := by decide +kernel
theorem dX12_readsOn_239 : decode cX12_readsOn 239 = .ok (.invokestatic 105, 3) := by decide +kernel
theorem dX12_readsOn_242 : decode cX12_readsOn 242 = .ok (.ifCond .eq 7, 3) := by decide +kernel
theorem dX12_readsOn_245 : decode cX12_readsOn 245 = .ok (.iload_n 1, 1) := by decide +kernel
theorem dX12_readsOn_246 : decode cX12_readsOn 246 = .ok (.goto 4, 3) := by decide +kernel
theorem dX12_readsOn_249 : decode cX12_readsOn 249 = .ok (.iconst 3, 1) := by decide +kernel
theorem dX12_readsOn_25 : decode cX12_readsOn 25 = .ok (.aload_n 0, 1) := by decide +kernel
theorem dX12_readsOn_250 : decode cX12_readsOn 250 = .ok (.putfield 88, 3) := by decide +kernel
theorem dX12_readsOn_253 : decode cX12_readsOn 253 = .ok (.aload_n 0, 1) := by decide +kernel
theorem dX12_readsOn_254 : decode cX12_readsOn 254 = .ok (.dup, 1) := by decide +kernel
theorem dX12_readsOn_255 : decode cX12_readsOn 255 = .ok (.getfield 82, 3) := by decide +kernel
theorem dX12_readsOn_258 : decode cX12_readsOn 258 = .ok (.iconst 1, 1) := by decide +kernel
theorem dX12_readsOn_259 : decode cX12_readsOn 259 = .ok (.iadd, 1) := by decide +kernel
theorem dX12_readsOn_26 : decode cX12_readsOn 26 = .ok (.getfield 23, 3) := by decide +kernel
theorem dX12_readsOn_260 : decode cX12_readsOn 260 = .ok (.putfield 82, 3) := by decide +kernel
theorem dX12_readsOn_263 : decode cX12_readsOn 263 = .ok (.return_, 1) := by decide +kernel
theorem dX12_readsOn_29 : decode cX12_readsOn 29 = .ok (.aload_n 0, 1) := by decide +kernel
theorem dX12_readsOn_30 : decode cX12_readsOn 30 = .ok (.getfield 82, 3) := by decide +kernel
theorem dX12_readsOn_33 : decode cX12_readsOn 33 = .ok (.iaload, 1) := by decide +kernel
theorem dX12_readsOn_34 : decode cX12_readsOn 34 = .ok (.bipush 10, 2) := by decide +kernel
theorem dX12_readsOn_36 : decode cX12_readsOn 36 = .ok (.if_icmp .ne 16, 3) := by decide +kernel
theorem dX12_readsOn_39 : decode cX12_readsOn 39 = .ok (.aload_n 0, 1) := by decide +kernel
theorem dX12_readsOn_4 : decode cX12_readsOn 4 = .ok (.aload_n 0, 1) := by decide +kernel
theorem dX12_readsOn_40 : decode cX12_readsOn 40 = .ok (.dup, 1) := by decide +kernel
theorem dX12_readsOn_41 : decode cX12_readsOn 41 = .ok (.getfield 82, 3) := by decide +kernel
theorem dX12_readsOn_44 : decode cX12_readsOn 44 = .ok (.iconst 1, 1) := by decide +kernel
theorem dX12_readsOn_45 : decode cX12_readsOn 45 = .ok (.iadd, 1) := by decide +kernel
theorem dX12_readsOn_46 : decode cX12_readsOn 46 = .ok (.putfield 82, 3) := by decide +kernel
theorem dX12_readsOn_49 : decode cX12_readsOn 49 = .ok (.goto (-49), 3) := by decide +kernel
theorem dX12_readsOn_5 : decode cX12_readsOn 5 = .ok (.getfield 79, 3) := by decide +kernel
theorem dX12_readsOn_52 : decode cX12_readsOn 52 = .ok (.aload_n 0, 1) := by decide +kernel
theorem dX12_readsOn_53 : decode cX12_readsOn 53 = .ok (.aload_n 0, 1) := by decide +kernel
theorem dX12_readsOn_54 : decode cX12_readsOn 54 = .ok (.getfield 82, 3) := by decide +kernel
theorem dX12_readsOn_57 : decode cX12_readsOn 57 = .ok (.putfield 85, 3) := by decide +kernel
theorem dX12_readsOn_60 : decode cX12_readsOn 60 = .ok (.aload_n 0, 1) := by decide +kernel
theorem dX12_readsOn_61 : decode cX12_readsOn 61 = .ok (.getfield 82, 3) := by decide +kernel
theorem dX12_readsOn_64 : decode cX12_readsOn 64 = .ok (.aload_n 0, 1) := by decide +kernel
theorem dX12_readsOn_65 : decode cX12_readsOn 65 = .ok (.getfield 79, 3) := by decide +kernel
theorem dX12_readsOn_68 : decode cX12_readsOn 68 = .ok (.if_icmp .lt 9, 3) := by decide +kernel
theorem dX12_readsOn_71 : decode cX12_readsOn 71 = .ok (.aload_n 0, 1) := by decide +kernel
theorem dX12_readsOn_72 : decode cX12_readsOn 72 = .ok (.iconst 0, 1) := by decide +kernel
theorem dX12_readsOn_73 : decode cX12_readsOn 73 = .ok (.putfield 88, 3) := by decide +kernel
theorem dX12_readsOn_76 : decode cX12_readsOn 76 = .ok (.return_, 1) := by decide +kernel
theorem dX12_readsOn_77 : decode cX12_readsOn 77 = .ok (.aload_n 0, 1) := by decide +kernel
theorem dX12_readsOn_78 : decode cX12_readsOn 78 = .ok (.getfield 23, 3) := by decide +kernel
theorem dX12_readsOn_8 : decode cX12_readsOn 8 = .ok (.if_icmp .ge 44, 3) := by decide +kernel
theorem dX12_readsOn_81 : decode cX12_readsOn 81 = .ok (.aload_n 0, 1) := by decide +kernel
theorem dX12_readsOn_82 : decode cX12_readsOn 82 = .ok (.getfield 82, 3) := by decide +kernel
theorem dX12_readsOn_85 : decode cX12_readsOn 85 = .ok (.iaload, 1) := by decide +kernel
theorem dX12_readsOn_86 : decode cX12_readsOn 86 = .ok (.istore_n 1, 1) := by decide +kernel
theorem dX12_readsOn_87 : decode cX12_readsOn 87 = .ok (.iload_n 1, 1) := by decide +kernel
theorem dX12_readsOn_88 : decode cX12_readsOn 88 = .ok (.invokestatic 91, 3) := by decide +kernel
theorem dX12_readsOn_91 : decode cX12_readsOn 91 = .ok (.ifCond .eq 38, 3) := by decide +kernel
theorem dX12_readsOn_94 : decode cX12_readsOn 94 = .ok (.aload_n 0, 1) := by decide +kernel
theorem dX12_readsOn_95 : decode cX12_readsOn 95 = .ok (.aload_n 0, 1) := by decide +kernel
theorem dX12_readsOn_96 : decode cX12_readsOn 96 = .ok (.getfield 82, 3) := by decide +kernel
theorem dX12_readsOn_99 : decode cX12_readsOn 99 = .ok (.invokevirtual 95, 3) := by decide +kernel
theorem dX12_took_0 : decode cX12_took 0 = .ok (.aload_n 0, 1) := by decide +kernel
theorem dX12_took_1 : decode cX12_took 1 = .ok (.aload_n 1, 1) := by decide +kernel
theorem dX12_took_10 : decode cX12_took 10 = .ok (.aload_n 0, 1) := by decide +kernel
theorem dX12_took_11 : decode cX12_took 11 = .ok (.invokevirtual 127, 3) := by decide +kernel
theorem dX12_took_14 : decode cX12_took 14 = .ok (.iload_n 2, 1) := by decide +kernel
theorem dX12_took_15 : decode cX12_took 15 = .ok (.ireturn, 1) := by decide +kernel
theorem dX12_took_2 : decode cX12_took 2 = .ok (.invokevirtual 123, 3) := by decide +kernel
theorem dX12_took_5 : decode cX12_took 5 = .ok (.istore_n 2, 1) := by decide +kernel
theorem dX12_took_6 : decode cX12_took 6 = .ok (.iload_n 2, 1) := by decide +kernel
theorem dX12_took_7 : decode cX12_took 7 = .ok (.ifCond .eq 7, 3) := by decide +kernel
set_option maxHeartbeats 4000000 in
set_option maxRecDepth 4000 in
theorem kp_X12_isLetter (l : Launch) (M : Mem) (hJ : Iw M) (x0 : Int) (hx0a : (-2147483648) ≤ x0) (hx0b : x0 ≤ 2147483647) : CI l yX12_isLetter cX12_isLetter 1 (some .boolean) 1 (fun ad => [ii x0]) M (fun z M' => (0 ≤ z ∧ z ≤ 1) ∧ M = M' ∧ (z = 1 ↔ 97 ≤ x0 ∧ x0 ≤ 122)) := by
  obtain ⟨hI, hW⟩ := hJ
  refine en_z (by decide +kernel) (fun ad => by exact Nat.le_of_ble_eq_true rfl) (fun D cy ad A p e s m args below meth c Q F hret => ?_)
  refine z_eq (ls' := [(0, ii x0)]) rfl rfl rfl ?_
  refine z_iload_n F dX12_isLetter_0 rfl (q := 0) rfl ?_
  refine z_bipush F dX12_isLetter_1 (by decide +kernel) ?_
  refine z_icmp_lt (tgt := 16) F dX12_isLetter_3 (by decide +kernel) (by omega) (by omega) (fun c1 => ?_) (fun c1 => ?_)
  · refine z_iconst F dX12_isLetter_16 ?_
    exact hret _ _ 17 _ ⟨by omega, by omega⟩ ⟨hI, hW⟩ ⟨⟨by omega, by omega⟩, rfl, (by omega)⟩ dX12_isLetter_17
  · refine z_iload_n F dX12_isLetter_6 rfl (q := 0) rfl ?_
    refine z_bipush F dX12_isLetter_7 (by decide +kernel) ?_
    refine z_icmp_gt (tgt := 16) F dX12_isLetter_9 (by decide +kernel) (by omega) (by omega) (fun c2 => ?_) (fun c2 => ?_)
    · refine z_iconst F dX12_isLetter_16 ?_
      exact hret _ _ 17 _ ⟨by omega, by omega⟩ ⟨hI, hW⟩ ⟨⟨by omega, by omega⟩, rfl, (by omega)⟩ dX12_isLetter_17
    · refine z_iconst F dX12_isLetter_12 ?_
      refine z_goto (tgt := 17) F dX12_isLetter_13 (by decide +kernel) ?_
      exact hret _ _ 17 _ ⟨by omega, by omega⟩ ⟨hI, hW⟩ ⟨⟨by omega, by omega⟩, rfl, (by omega)⟩ dX12_isLetter_17
set_option maxHeartbeats 4000000 in
set_option maxRecDepth 4000 in
theorem kp_X12_isDigit (l : Launch) (M : Mem) (hJ : Iw M) (x0 : Int) (hx0a : (-2147483648) ≤ x0) (hx0b : x0 ≤ 2147483647) : CI l yX12_isDigit cX12_isDigit 1 (some .boolean) 1 (fun ad => [ii x0]) M (fun z M' => (0 ≤ z ∧ z ≤ 1) ∧ M = M' ∧ (z = 1 ↔ 48 ≤ x0 ∧ x0 ≤ 57)) := by
  obtain ⟨hI, hW⟩ := hJ
  refine en_z (by decide +kernel) (fun ad => by exact Nat.le_of_ble_eq_true rfl) (fun D cy ad A p e s m args below meth c Q F hret => ?_)
  refine z_eq (ls' := [(0, ii x0)]) rfl rfl rfl ?_
  refine z_iload_n F dX12_isDigit_0 rfl (q := 0) rfl ?_
  refine z_bipush F dX12_isDigit_1 (by decide +kernel) ?_
  refine z_icmp_lt (tgt := 16) F dX12_isDigit_3 (by decide +kernel) (by omega) (by omega) (fun c1 => ?_) (fun c1 => ?_)
  · refine z_iconst F dX12_isDigit_16 ?_
    exact hret _ _ 17 _ ⟨by omega, by omega⟩ ⟨hI, hW⟩ ⟨⟨by omega, by omega⟩, rfl, (by omega)⟩ dX12_isDigit_17
  · refine z_iload_n F dX12_isDigit_6 rfl (q := 0) rfl ?_
    refine z_bipush F dX12_isDigit_7 (by decide +kernel) ?_
    refine z_icmp_gt (tgt := 16) F dX12_isDigit_9 (by decide +kernel) (by omega) (by omega) (fun c2 => ?_) (fun c2 => ?_)
    · refine z_iconst F dX12_isDigit_16 ?_
      exact hret _ _ 17 _ ⟨by omega, by omega⟩ ⟨hI, hW⟩ ⟨⟨by omega, by omega⟩, rfl, (by omega)⟩ dX12_isDigit_17
    · refine z_iconst F dX12_isDigit_12 ?_
      refine z_goto (tgt := 17) F dX12_isDigit_13 (by decide +kernel) ?_
      exact hret _ _ 17 _ ⟨by omega, by omega⟩ ⟨hI, hW⟩ ⟨⟨by omega, by omega⟩, rfl, (by omega)⟩ dX12_isDigit_17
set_option maxHeartbeats 4000000 in
set_option maxRecDepth 4000 in
theorem kp_X12_see (l : Launch) (M : Mem) (hJ : Iw M) (x0 : Int) (hx0a : 0 ≤ x0) (hx0b : x0 ≤ 900) : CI l yX12_see cX12_see 2 (some .int) 1 (fun ad => [.ref (ad 131), ii x0]) M (fun z M' => ((-2147483648) ≤ z ∧ z ≤ 2147483647) ∧ M = M' ∧ (x0 < M 131 7 ∧ z = M 136 x0.toNat ∨ M 131 7 ≤ x0 ∧ z = 0)) := by
  obtain ⟨hI, hW⟩ := hJ
  refine en_i (by decide +kernel) (fun ad => by exact Nat.le_of_ble_eq_true rfl) (fun D cy ad A p e s m args below meth c Q F hret => ?_)
  refine z_eq (ls' := [(0, .ref (ad 131)), (1, ii x0)]) rfl rfl rfl ?_
  refine z_iload_n F dX12_see_0 rfl (q := 1) rfl ?_
  refine z_aload_n F dX12_see_1 rfl (q := 0) rfl ?_
  refine gf_X12_79 F hI gs_131 rfl bd_131_7 dX12_see_2 (fun v1 ev1 av1 bv1 => ?_)
  refine z_icmp_ge (tgt := 17) F dX12_see_5 (by decide +kernel) (by omega) (by omega) (fun c2 => ?_) (fun c2 => ?_)
  · refine z_iconst F dX12_see_17 ?_
    exact hret _ _ 18 _ (by omega) ⟨hI, hW⟩ ⟨⟨by omega, by omega⟩, rfl, (by omega)⟩ dX12_see_18
  · refine z_aload_n F dX12_see_8 rfl (q := 0) rfl ?_
    refine rf_X12_23 F gs_131 rfl dX12_see_9 ?_
    refine z_iload_n F dX12_see_12 rfl (q := 1) rfl ?_
    refine z_iald F hI gs_136 (by omega) (by omega) (by decide) bd_136 dX12_see_13 (fun v3 (ev3 : v3 = M 136 _) av3 bv3 => ?_)
    refine z_goto (tgt := 18) F dX12_see_14 (by decide +kernel) ?_
    exact hret _ _ 18 _ (by omega) ⟨hI, hW⟩ ⟨⟨by omega, by omega⟩, rfl, (by omega)⟩ dX12_see_18
set_option maxHeartbeats 4000000 in
set_option maxRecDepth 4000 in
theorem kp_X12_readsOn (l : Launch) (M : Mem) (hJ : Iw M) (hp0 : M 131 8 ≤ M 131 7) : CV l yX12_readsOn cX12_readsOn 2 none 2 (fun ad => [.ref (ad 131)]) M (fun M' => Fr [131] M M' ∧ (M 131 8 ≤ M' 131 9 ∧ 0 ≤ M' 131 9 ∧ M' 131 9 ≤ M' 131 8 ∧ M' 131 8 ≤ M' 131 7 ∧ M' 131 7 ≤ 900 ∧ (M' 131 10 = 0 ∨ M' 131 9 < M' 131 8) ∧ M' 131 7 = M 131 7 ∧ M' 131 12 = M 131 12 ∧ M' 131 16 = M 131 16)) := by
  obtain ⟨hI, hW⟩ := hJ
  have hF : Fr [131] M M := Fr.rf
  refine en_v (by decide +kernel) (fun ad => by exact Nat.le_of_ble_eq_true rfl) (fun D cy ad A p e s m args below meth c Q F hret => ?_)
  refine z_eq (ls' := [(0, .ref (ad 131))]) rfl rfl rfl ?_
  obtain ⟨u1, eu1⟩ : ∃ v : Int, v = M 131 7 := ⟨_, rfl⟩
  have ku1 : 0 ≤ u1 ∧ u1 ≤ 900 := by have := hI.at (show Bd 131 7 = (0, 900) from rfl); omega
  obtain ⟨u2, eu2⟩ : ∃ v : Int, v = M 131 8 := ⟨_, rfl⟩
  have ku2 : 0 ≤ u2 ∧ u2 ≤ 900 := by have := hI.at (show Bd 131 8 = (0, 900) from rfl); omega
  obtain ⟨u3, eu3⟩ : ∃ v : Int, v = M 131 9 := ⟨_, rfl⟩
  have ku3 : 0 ≤ u3 ∧ u3 ≤ 900 := by have := hI.at (show Bd 131 9 = (0, 900) from rfl); omega
  obtain ⟨u4, eu4⟩ : ∃ v : Int, v = M 131 10 := ⟨_, rfl⟩
  have ku4 : (-2147483648) ≤ u4 ∧ u4 ≤ 2147483647 := by have := hI.at (show Bd 131 10 = (-2147483648, 2147483647) from rfl); omega
  obtain ⟨u5, eu5⟩ : ∃ v : Int, v = M 131 12 := ⟨_, rfl⟩
  have ku5 : 0 ≤ u5 ∧ u5 ≤ 4 := by have := hI.at (show Bd 131 12 = (0, 4) from rfl); omega
  obtain ⟨u6, eu6⟩ : ∃ v : Int, v = M 131 16 := ⟨_, rfl⟩
  have ku6 : (-2147483648) ≤ u6 ∧ u6 ≤ 2147483647 := by have := hI.at (show Bd 131 16 = (-2147483648, 2147483647) from rfl); omega
  refine z_loc [0] (ls' := [(0, .ref (ad 131))]) rfl ?_
  suffices key0 : ∀ (n : Nat) (M7 : Mem), Inv M7 → WFk M7 → Fr [131] M M7 → (M7 131 7 = M 131 7) → (M7 131 12 = M 131 12) → (M7 131 16 = M 131 16) → (M 131 8 ≤ M7 131 8) → (M7 131 8 ≤ M7 131 7) → 900 - M7 131 8 < (n : Int) → Z D cy ad p l e (RMh 2) s m args below meth c A 2 0 0 Q 0 [(0, .ref (ad 131))] [] M7 from key0 901 M hI hW hF (by omega) (by omega) (by omega) (by omega) (by omega) (by omega)
  intro n0
  induction n0 with
  | zero => intro M7 hI hW hF i0_0 i0_1 i0_2 i0_3 i0_4 hn0; exfalso; omega
  | succ n0 ih0 =>
    intro M7 hI hW hF i0_0 i0_1 i0_2 i0_3 i0_4 hn0
    obtain ⟨u8, eu8⟩ : ∃ v : Int, v = M7 131 7 := ⟨_, rfl⟩
    have ku8 : 0 ≤ u8 ∧ u8 ≤ 900 := by have := hI.at (show Bd 131 7 = (0, 900) from rfl); omega
    obtain ⟨u9, eu9⟩ : ∃ v : Int, v = M7 131 8 := ⟨_, rfl⟩
    have ku9 : 0 ≤ u9 ∧ u9 ≤ 900 := by have := hI.at (show Bd 131 8 = (0, 900) from rfl); omega
    obtain ⟨u10, eu10⟩ : ∃ v : Int, v = M7 131 9 := ⟨_, rfl⟩
    have ku10 : 0 ≤ u10 ∧ u10 ≤ 900 := by have := hI.at (show Bd 131 9 = (0, 900) from rfl); omega
    obtain ⟨u11, eu11⟩ : ∃ v : Int, v = M7 131 10 := ⟨_, rfl⟩
    have ku11 : (-2147483648) ≤ u11 ∧ u11 ≤ 2147483647 := by have := hI.at (show Bd 131 10 = (-2147483648, 2147483647) from rfl); omega
    obtain ⟨u12, eu12⟩ : ∃ v : Int, v = M7 131 12 := ⟨_, rfl⟩
    have ku12 : 0 ≤ u12 ∧ u12 ≤ 4 := by have := hI.at (show Bd 131 12 = (0, 4) from rfl); omega
    obtain ⟨u13, eu13⟩ : ∃ v : Int, v = M7 131 16 := ⟨_, rfl⟩
    have ku13 : (-2147483648) ≤ u13 ∧ u13 ≤ 2147483647 := by have := hI.at (show Bd 131 16 = (-2147483648, 2147483647) from rfl); omega
    refine z_aload_n F dX12_readsOn_0 rfl (q := 0) rfl ?_
    refine gf_X12_82 F hI gs_131 rfl bd_131_8 dX12_readsOn_1 (fun v14 ev14 av14 bv14 => ?_)
    have zv14 : u9 = v14 := eu9.trans ev14.symm
    subst zv14
    refine z_aload_n F dX12_readsOn_4 rfl (q := 0) rfl ?_
    refine gf_X12_79 F hI gs_131 rfl bd_131_7 dX12_readsOn_5 (fun v15 ev15 av15 bv15 => ?_)
    have zv15 : u8 = v15 := eu8.trans ev15.symm
    subst zv15
    refine z_icmp_ge (tgt := 52) F dX12_readsOn_8 (by decide +kernel) (by omega) (by omega) (fun c16 => ?_) (fun c16 => ?_)
    · refine z_aload_n F dX12_readsOn_52 rfl (q := 0) rfl ?_
      refine z_aload_n F dX12_readsOn_53 rfl (q := 0) rfl ?_
      refine gf_X12_82 F hI gs_131 rfl bd_131_8 dX12_readsOn_54 (fun v17 ev17 av17 bv17 => ?_)
      have zv17 : u9 = v17 := eu9.trans ev17.symm
      subst zv17
      refine pf_X12_85 F hI gs_131 rfl bd_131_9 rfl rfl dX12_readsOn_57 (by omega) (by omega) (fun M19 hI sf18 f18 => ?_)
      have hF := hF.wrf f18 (by decide) (by decide)
      have hW : WFk M19 := hW.site f18 (by decide)
      refine z_aload_n F dX12_readsOn_60 rfl (q := 0) rfl ?_
      refine gf_X12_82 F hI gs_131 rfl bd_131_8 dX12_readsOn_61 (fun v20 ev20 av20 bv20 => ?_)
      have q21 : u9 = M19 131 8 := eu9.trans (f18 131 8 (fun q => absurd q.2 (by decide))).symm
      have zv20 : u9 = v20 := q21.trans ev20.symm
      subst zv20
      refine z_aload_n F dX12_readsOn_64 rfl (q := 0) rfl ?_
      refine gf_X12_79 F hI gs_131 rfl bd_131_7 dX12_readsOn_65 (fun v22 ev22 av22 bv22 => ?_)
      have q23 : u8 = M19 131 7 := eu8.trans (f18 131 7 (fun q => absurd q.2 (by decide))).symm
      have zv22 : u8 = v22 := q23.trans ev22.symm
      subst zv22
      refine z_icmp_lt (tgt := 77) F dX12_readsOn_68 (by decide +kernel) (by omega) (by omega) (fun c24 => ?_) (fun c24 => ?_)
      · refine z_aload_n F dX12_readsOn_77 rfl (q := 0) rfl ?_
        refine rf_X12_23 F gs_131 rfl dX12_readsOn_78 ?_
        refine z_aload_n F dX12_readsOn_81 rfl (q := 0) rfl ?_
        refine gf_X12_82 F hI gs_131 rfl bd_131_8 dX12_readsOn_82 (fun v25 ev25 av25 bv25 => ?_)
        have zv25 : u9 = v25 := q21.trans ev25.symm
        subst zv25
        refine z_iald F hI gs_136 (by omega) (by omega) (by decide) bd_136 dX12_readsOn_85 (fun v26 (ev26 : v26 = M19 136 _) av26 bv26 => ?_)
        refine z_istore_n F dX12_readsOn_86 rfl (by decide) (ls' := [(1, ii v26), (0, .ref (ad 131))]) rfl ?_
        refine z_iload_n F dX12_readsOn_87 rfl (q := 0) rfl ?_
        refine zs_i (rest := []) F (kp_X12_isLetter l M19 ⟨hI, hW⟩ v26 (by omega) (by omega)) cs_X12_91 (by decide) (by decide) rfl rfl rfl (Nat.le_of_ble_eq_true rfl) dX12_readsOn_88 (fun v27 M28 rv27 hI p29 => ?_)
        obtain ⟨hI, hW⟩ := hI
        obtain ⟨⟨av27, bv27⟩, rfl, xp29⟩ := p29
        refine z_if_eq (tgt := 129) F dX12_readsOn_91 (by decide +kernel) (by omega) (fun c30 => ?_) (fun c30 => ?_)
        · refine z_iload_n F dX12_readsOn_129 rfl (q := 0) rfl ?_
          refine zs_i (rest := []) F (kp_X12_isDigit l M19 ⟨hI, hW⟩ v26 (by omega) (by omega)) cs_X12_99 (by decide) (by decide) rfl rfl rfl (Nat.le_of_ble_eq_true rfl) dX12_readsOn_130 (fun v31 M32 rv31 hI p33 => ?_)
          obtain ⟨hI, hW⟩ := hI
          obtain ⟨⟨av31, bv31⟩, rfl, xp33⟩ := p33
          refine z_if_eq (tgt := 237) F dX12_readsOn_133 (by decide +kernel) (by omega) (fun c34 => ?_) (fun c34 => ?_)
          · refine z_aload_n F dX12_readsOn_237 rfl (q := 1) rfl ?_
            refine z_iload_n F dX12_readsOn_238 rfl (q := 0) rfl ?_
            refine zs_i (rest := [.ref (ad 131)]) F (k_X12_isSignByte l M19 ⟨hI, hW⟩ v26 (by omega) (by omega)) cs_X12_105 (by decide) (by decide) rfl rfl rfl (Nat.le_of_ble_eq_true rfl) dX12_readsOn_239 (fun v35 M36 rv35 hI p37 => ?_)
            obtain ⟨hI, hW⟩ := hI
            obtain ⟨⟨av35, bv35⟩, rfl⟩ := p37
            refine z_if_eq (tgt := 249) F dX12_readsOn_242 (by decide +kernel) (by omega) (fun c38 => ?_) (fun c38 => ?_)
            · refine z_iconst F dX12_readsOn_249 ?_
              refine pf_X12_88 F hI gs_131 rfl bd_131_10 rfl rfl dX12_readsOn_250 (by omega) (by omega) (fun M40 hI sf39 f39 => ?_)
              have hF := hF.wrf f39 (by decide) (by decide)
              have hW : WFk M40 := hW.site f39 (by decide)
              refine z_aload_n F dX12_readsOn_253 rfl (q := 1) rfl ?_
              refine z_dup F dX12_readsOn_254 rfl ?_
              refine gf_X12_82 F hI gs_131 rfl bd_131_8 dX12_readsOn_255 (fun v41 ev41 av41 bv41 => ?_)
              have q42 : u9 = M40 131 8 := q21.trans (f39 131 8 (fun q => absurd q.2 (by decide))).symm
              have zv41 : u9 = v41 := q42.trans ev41.symm
              subst zv41
              refine z_iconst F dX12_readsOn_258 ?_
              refine z_iadd F dX12_readsOn_259 ?_
              refine z_nm (fun v43 ev43 => ?_)
              refine pf_X12_82 F hI gs_131 rfl bd_131_8 rfl rfl dX12_readsOn_260 (by omega) (by omega) (fun M45 hI sf44 f44 => ?_)
              have hF := hF.wrf f44 (by decide) (by decide)
              have hW : WFk M45 := hW.site f44 (by decide)
              have q46 : u8 = M40 131 7 := q23.trans (f39 131 7 (fun q => absurd q.2 (by decide))).symm
              have q47 : u8 = M45 131 7 := q46.trans (f44 131 7 (fun q => absurd q.2 (by decide))).symm
              have q48 : u9 = M40 131 9 := sf18.symm.trans (f39 131 9 (fun q => absurd q.2 (by decide))).symm
              have q49 : u9 = M45 131 9 := q48.trans (f44 131 9 (fun q => absurd q.2 (by decide))).symm
              have q50 : 3 = M45 131 10 := sf39.symm.trans (f44 131 10 (fun q => absurd q.2 (by decide))).symm
              have q51 : u12 = M19 131 12 := eu12.trans (f18 131 12 (fun q => absurd q.2 (by decide))).symm
              have q52 : u12 = M40 131 12 := q51.trans (f39 131 12 (fun q => absurd q.2 (by decide))).symm
              have q53 : u12 = M45 131 12 := q52.trans (f44 131 12 (fun q => absurd q.2 (by decide))).symm
              have q54 : u13 = M19 131 16 := eu13.trans (f18 131 16 (fun q => absurd q.2 (by decide))).symm
              have q55 : u13 = M40 131 16 := q54.trans (f39 131 16 (fun q => absurd q.2 (by decide))).symm
              have q56 : u13 = M45 131 16 := q55.trans (f44 131 16 (fun q => absurd q.2 (by decide))).symm
              exact hret _ 263 _ ⟨hI, hW⟩ ⟨hF, (by omega)⟩ dX12_readsOn_263
            · refine z_iload_n F dX12_readsOn_245 rfl (q := 0) rfl ?_
              refine z_goto (tgt := 250) F dX12_readsOn_246 (by decide +kernel) ?_
              refine pf_X12_88 F hI gs_131 rfl bd_131_10 rfl rfl dX12_readsOn_250 (by omega) (by omega) (fun M58 hI sf57 f57 => ?_)
              have hF := hF.wrf f57 (by decide) (by decide)
              have hW : WFk M58 := hW.site f57 (by decide)
              refine z_aload_n F dX12_readsOn_253 rfl (q := 1) rfl ?_
              refine z_dup F dX12_readsOn_254 rfl ?_
              refine gf_X12_82 F hI gs_131 rfl bd_131_8 dX12_readsOn_255 (fun v59 ev59 av59 bv59 => ?_)
              have q60 : u9 = M58 131 8 := q21.trans (f57 131 8 (fun q => absurd q.2 (by decide))).symm
              have zv59 : u9 = v59 := q60.trans ev59.symm
              subst zv59
              refine z_iconst F dX12_readsOn_258 ?_
              refine z_iadd F dX12_readsOn_259 ?_
              refine z_nm (fun v61 ev61 => ?_)
              refine pf_X12_82 F hI gs_131 rfl bd_131_8 rfl rfl dX12_readsOn_260 (by omega) (by omega) (fun M63 hI sf62 f62 => ?_)
              have hF := hF.wrf f62 (by decide) (by decide)
              have hW : WFk M63 := hW.site f62 (by decide)
              have q64 : u8 = M58 131 7 := q23.trans (f57 131 7 (fun q => absurd q.2 (by decide))).symm
              have q65 : u8 = M63 131 7 := q64.trans (f62 131 7 (fun q => absurd q.2 (by decide))).symm
              have q66 : u9 = M58 131 9 := sf18.symm.trans (f57 131 9 (fun q => absurd q.2 (by decide))).symm
              have q67 : u9 = M63 131 9 := q66.trans (f62 131 9 (fun q => absurd q.2 (by decide))).symm
              have q68 : v26 = M63 131 10 := sf57.symm.trans (f62 131 10 (fun q => absurd q.2 (by decide))).symm
              have q69 : u12 = M19 131 12 := eu12.trans (f18 131 12 (fun q => absurd q.2 (by decide))).symm
              have q70 : u12 = M58 131 12 := q69.trans (f57 131 12 (fun q => absurd q.2 (by decide))).symm
              have q71 : u12 = M63 131 12 := q70.trans (f62 131 12 (fun q => absurd q.2 (by decide))).symm
              have q72 : u13 = M19 131 16 := eu13.trans (f18 131 16 (fun q => absurd q.2 (by decide))).symm
              have q73 : u13 = M58 131 16 := q72.trans (f57 131 16 (fun q => absurd q.2 (by decide))).symm
              have q74 : u13 = M63 131 16 := q73.trans (f62 131 16 (fun q => absurd q.2 (by decide))).symm
              exact hret _ 263 _ ⟨hI, hW⟩ ⟨hF, (by omega)⟩ dX12_readsOn_263
          · refine z_aload_n F dX12_readsOn_136 rfl (q := 1) rfl ?_
            refine z_iconst F dX12_readsOn_137 ?_
            refine pf_X12_102 F hI gs_131 rfl bd_131_11 rfl rfl dX12_readsOn_138 (by omega) (by omega) (fun M76 hI sf75 f75 => ?_)
            have hF := hF.wrf f75 (by decide) (by decide)
            have hW : WFk M76 := hW.site f75 (by decide)
            have q78 : u9 = M76 131 8 := q21.trans (f75 131 8 (fun q => absurd q.2 (by decide))).symm
            have q79 : v26 = M76 136 (u9).toNat := ev26.trans (f75 136 (u9).toNat (fun q => absurd q.1 (by decide))).symm
            refine z_loc [1] (ls' := [(0, .ref (ad 131))]) rfl ?_
            have q80 : u8 = M76 131 7 := q23.trans (f75 131 7 (fun q => absurd q.2 (by decide))).symm
            have q81 : u9 = M76 131 9 := sf18.symm.trans (f75 131 9 (fun q => absurd q.2 (by decide))).symm
            have q82 : u11 = M19 131 10 := eu11.trans (f18 131 10 (fun q => absurd q.2 (by decide))).symm
            have q83 : u11 = M76 131 10 := q82.trans (f75 131 10 (fun q => absurd q.2 (by decide))).symm
            have q84 : u12 = M19 131 12 := eu12.trans (f18 131 12 (fun q => absurd q.2 (by decide))).symm
            have q85 : u12 = M76 131 12 := q84.trans (f75 131 12 (fun q => absurd q.2 (by decide))).symm
            have q86 : u13 = M19 131 16 := eu13.trans (f18 131 16 (fun q => absurd q.2 (by decide))).symm
            have q87 : u13 = M76 131 16 := q86.trans (f75 131 16 (fun q => absurd q.2 (by decide))).symm
            suffices key141 : ∀ (n : Nat) (M77 : Mem), Inv M77 → WFk M77 → Fr [131] M M77 → (M77 131 7 = M 131 7) → (M77 131 12 = M 131 12) → (M77 131 16 = M 131 16) → (M 131 8 ≤ M77 131 8) → (M77 131 8 ≤ M77 131 7) → (M 131 8 ≤ M77 131 9) → (M77 131 9 ≤ M77 131 8) → (M77 131 9 < M77 131 8 ∨ M77 131 8 < M77 131 7 ∧ 48 ≤ M77 136 (M77 131 8).toNat ∧ M77 136 (M77 131 8).toNat ≤ 57) → 900 - M77 131 8 < (n : Int) → Z D cy ad p l e (RMh 2) s m args below meth c A 2 0 0 Q 141 [(0, .ref (ad 131))] [] M77 from key141 901 M76 hI hW hF (by omega) (by omega) (by omega) (by omega) (by omega) (by omega) (by omega) (Or.inr (by rw [← q78]; omega)) (by omega)
            intro n141
            induction n141 with
            | zero => intro M77 hI hW hF i141_0 i141_1 i141_2 i141_3 i141_4 i141_5 i141_6 i141_7 hn141; exfalso; omega
            | succ n141 ih141 =>
              intro M77 hI hW hF i141_0 i141_1 i141_2 i141_3 i141_4 i141_5 i141_6 i141_7 hn141
              obtain ⟨u88, eu88⟩ : ∃ v : Int, v = M77 131 7 := ⟨_, rfl⟩
              have ku88 : 0 ≤ u88 ∧ u88 ≤ 900 := by have := hI.at (show Bd 131 7 = (0, 900) from rfl); omega
              obtain ⟨u89, eu89⟩ : ∃ v : Int, v = M77 131 8 := ⟨_, rfl⟩
              have ku89 : 0 ≤ u89 ∧ u89 ≤ 900 := by have := hI.at (show Bd 131 8 = (0, 900) from rfl); omega
              obtain ⟨u90, eu90⟩ : ∃ v : Int, v = M77 131 9 := ⟨_, rfl⟩
              have ku90 : 0 ≤ u90 ∧ u90 ≤ 900 := by have := hI.at (show Bd 131 9 = (0, 900) from rfl); omega
              obtain ⟨u91, eu91⟩ : ∃ v : Int, v = M77 131 10 := ⟨_, rfl⟩
              have ku91 : (-2147483648) ≤ u91 ∧ u91 ≤ 2147483647 := by have := hI.at (show Bd 131 10 = (-2147483648, 2147483647) from rfl); omega
              obtain ⟨u92, eu92⟩ : ∃ v : Int, v = M77 131 12 := ⟨_, rfl⟩
              have ku92 : 0 ≤ u92 ∧ u92 ≤ 4 := by have := hI.at (show Bd 131 12 = (0, 4) from rfl); omega
              obtain ⟨u93, eu93⟩ : ∃ v : Int, v = M77 131 16 := ⟨_, rfl⟩
              have ku93 : (-2147483648) ≤ u93 ∧ u93 ≤ 2147483647 := by have := hI.at (show Bd 131 16 = (-2147483648, 2147483647) from rfl); omega
              rw [← eu89] at i141_7
              refine z_aload_n F dX12_readsOn_141 rfl (q := 0) rfl ?_
              refine z_aload_n F dX12_readsOn_142 rfl (q := 0) rfl ?_
              refine gf_X12_82 F hI gs_131 rfl bd_131_8 dX12_readsOn_143 (fun v94 ev94 av94 bv94 => ?_)
              have zv94 : u89 = v94 := eu89.trans ev94.symm
              subst zv94
              refine zv_i (rest := []) F (kp_X12_see l M77 ⟨hI, hW⟩ u89 (by omega) (by omega)) cs_X12_95 (T := TX12) (N := 44) (ci := 12) rfl gs_131 (by decide) (by decide) rfl rfl rfl (Nat.le_of_ble_eq_true rfl) dX12_readsOn_146 (fun v95 M96 rv95 hI p97 => ?_)
              obtain ⟨hI, hW⟩ := hI
              obtain ⟨⟨av95, bv95⟩, rfl, xp97⟩ := p97
              refine zs_i (rest := []) F (kp_X12_isDigit l M77 ⟨hI, hW⟩ v95 (by omega) (by omega)) cs_X12_99 (by decide) (by decide) rfl rfl rfl (Nat.le_of_ble_eq_true rfl) dX12_readsOn_149 (fun v98 M99 rv98 hI p100 => ?_)
              obtain ⟨hI, hW⟩ := hI
              obtain ⟨⟨av98, bv98⟩, rfl, xp100⟩ := p100
              refine z_if_eq (tgt := 212) F dX12_readsOn_152 (by decide +kernel) (by omega) (fun c101 => ?_) (fun c101 => ?_)
              · refine z_aload_n F dX12_readsOn_212 rfl (q := 0) rfl ?_
                refine z_aload_n F dX12_readsOn_213 rfl (q := 0) rfl ?_
                refine gf_X12_82 F hI gs_131 rfl bd_131_8 dX12_readsOn_214 (fun v102 ev102 av102 bv102 => ?_)
                have zv102 : u89 = v102 := eu89.trans ev102.symm
                subst zv102
                refine z_aload_n F dX12_readsOn_217 rfl (q := 0) rfl ?_
                refine gf_X12_85 F hI gs_131 rfl bd_131_9 dX12_readsOn_218 (fun v103 ev103 av103 bv103 => ?_)
                have zv103 : u90 = v103 := eu90.trans ev103.symm
                subst zv103
                refine z_isub F dX12_readsOn_221 ?_
                refine z_iconst F dX12_readsOn_222 ?_
                refine z_icmp_le (tgt := 230) F dX12_readsOn_223 (by decide +kernel) (by omega) (by omega) (fun c104 => ?_) (fun c104 => ?_)
                · refine z_iconst F dX12_readsOn_230 ?_
                  refine pf_X12_88 F hI gs_131 rfl bd_131_10 rfl rfl dX12_readsOn_231 (by omega) (by omega) (fun M106 hI sf105 f105 => ?_)
                  have hF := hF.wrf f105 (by decide) (by decide)
                  have hW : WFk M106 := hW.site f105 (by decide)
                  refine z_goto (tgt := 263) F dX12_readsOn_234 (by decide +kernel) ?_
                  have q107 : u88 = M106 131 7 := eu88.trans (f105 131 7 (fun q => absurd q.2 (by decide))).symm
                  have q108 : u89 = M106 131 8 := eu89.trans (f105 131 8 (fun q => absurd q.2 (by decide))).symm
                  have q109 : u90 = M106 131 9 := eu90.trans (f105 131 9 (fun q => absurd q.2 (by decide))).symm
                  have q110 : u92 = M106 131 12 := eu92.trans (f105 131 12 (fun q => absurd q.2 (by decide))).symm
                  have q111 : u93 = M106 131 16 := eu93.trans (f105 131 16 (fun q => absurd q.2 (by decide))).symm
                  exact hret _ 263 _ ⟨hI, hW⟩ ⟨hF, (by omega)⟩ dX12_readsOn_263
                · refine z_iconst F dX12_readsOn_226 ?_
                  refine z_goto (tgt := 231) F dX12_readsOn_227 (by decide +kernel) ?_
                  refine pf_X12_88 F hI gs_131 rfl bd_131_10 rfl rfl dX12_readsOn_231 (by omega) (by omega) (fun M113 hI sf112 f112 => ?_)
                  have hF := hF.wrf f112 (by decide) (by decide)
                  have hW : WFk M113 := hW.site f112 (by decide)
                  refine z_goto (tgt := 263) F dX12_readsOn_234 (by decide +kernel) ?_
                  have q114 : u88 = M113 131 7 := eu88.trans (f112 131 7 (fun q => absurd q.2 (by decide))).symm
                  have q115 : u89 = M113 131 8 := eu89.trans (f112 131 8 (fun q => absurd q.2 (by decide))).symm
                  have q116 : u90 = M113 131 9 := eu90.trans (f112 131 9 (fun q => absurd q.2 (by decide))).symm
                  have q117 : u92 = M113 131 12 := eu92.trans (f112 131 12 (fun q => absurd q.2 (by decide))).symm
                  have q118 : u93 = M113 131 16 := eu93.trans (f112 131 16 (fun q => absurd q.2 (by decide))).symm
                  exact hret _ 263 _ ⟨hI, hW⟩ ⟨hF, (by omega)⟩ dX12_readsOn_263
              · refine z_aload_n F dX12_readsOn_155 rfl (q := 0) rfl ?_
                refine z_aload_n F dX12_readsOn_156 rfl (q := 0) rfl ?_
                refine gf_X12_82 F hI gs_131 rfl bd_131_8 dX12_readsOn_157 (fun v119 ev119 av119 bv119 => ?_)
                have zv119 : u89 = v119 := eu89.trans ev119.symm
                subst zv119
                refine z_aload_n F dX12_readsOn_160 rfl (q := 0) rfl ?_
                refine gf_X12_85 F hI gs_131 rfl bd_131_9 dX12_readsOn_161 (fun v120 ev120 av120 bv120 => ?_)
                have zv120 : u90 = v120 := eu90.trans ev120.symm
                subst zv120
                refine z_isub F dX12_readsOn_164 ?_
                refine z_iconst F dX12_readsOn_165 ?_
                refine z_icmp_ge (tgt := 192) F dX12_readsOn_166 (by decide +kernel) (by omega) (by omega) (fun c121 => ?_) (fun c121 => ?_)
                · refine z_aload_n F dX12_readsOn_192 rfl (q := 0) rfl ?_
                  refine gf_X12_102 F hI gs_131 rfl bd_131_11 dX12_readsOn_193 (fun v122 ev122 av122 bv122 => ?_)
                  refine pf_X12_102 F hI gs_131 rfl bd_131_11 rfl rfl dX12_readsOn_196 (by omega) (by omega) (fun M124 hI sf123 f123 => ?_)
                  have hF := hF.wrf f123 (by decide) (by decide)
                  have hW : WFk M124 := hW.site f123 (by decide)
                  refine z_aload_n F dX12_readsOn_199 rfl (q := 0) rfl ?_
                  refine z_dup F dX12_readsOn_200 rfl ?_
                  refine gf_X12_82 F hI gs_131 rfl bd_131_8 dX12_readsOn_201 (fun v125 ev125 av125 bv125 => ?_)
                  have q126 : u89 = M124 131 8 := eu89.trans (f123 131 8 (fun q => absurd q.2 (by decide))).symm
                  have zv125 : u89 = v125 := q126.trans ev125.symm
                  subst zv125
                  have k127 : 0 ≤ u89 ∧ u89 ≤ 899 := by omega
                  refine z_iconst F dX12_readsOn_204 ?_
                  refine z_iadd F dX12_readsOn_205 ?_
                  refine z_nm (fun v128 ev128 => ?_)
                  refine pf_X12_82 F hI gs_131 rfl bd_131_8 rfl rfl dX12_readsOn_206 (by omega) (by omega) (fun M130 hI sf129 f129 => ?_)
                  have hF := hF.wrf f129 (by decide) (by decide)
                  have hW : WFk M130 := hW.site f129 (by decide)
                  refine z_goto (tgt := 141) F dX12_readsOn_209 (by decide +kernel) ?_
                  refine z_loc [0] (ls' := [(0, .ref (ad 131))]) rfl ?_
                  have q131 : u88 = M124 131 7 := eu88.trans (f123 131 7 (fun q => absurd q.2 (by decide))).symm
                  have q132 : u88 = M130 131 7 := q131.trans (f129 131 7 (fun q => absurd q.2 (by decide))).symm
                  have q133 : u90 = M124 131 9 := eu90.trans (f123 131 9 (fun q => absurd q.2 (by decide))).symm
                  have q134 : u90 = M130 131 9 := q133.trans (f129 131 9 (fun q => absurd q.2 (by decide))).symm
                  have q135 : u91 = M124 131 10 := eu91.trans (f123 131 10 (fun q => absurd q.2 (by decide))).symm
                  have q136 : u91 = M130 131 10 := q135.trans (f129 131 10 (fun q => absurd q.2 (by decide))).symm
                  have q137 : u92 = M124 131 12 := eu92.trans (f123 131 12 (fun q => absurd q.2 (by decide))).symm
                  have q138 : u92 = M130 131 12 := q137.trans (f129 131 12 (fun q => absurd q.2 (by decide))).symm
                  have q139 : u93 = M124 131 16 := eu93.trans (f123 131 16 (fun q => absurd q.2 (by decide))).symm
                  have q140 : u93 = M130 131 16 := q139.trans (f129 131 16 (fun q => absurd q.2 (by decide))).symm
                  exact ih141 M130 hI hW hF (by omega) (by omega) (by omega) (by omega) (by omega) (by omega) (by omega) (Or.inl (by omega)) (by omega)
                · refine z_bipush F dX12_readsOn_169 (by decide +kernel) ?_
                  refine z_aload_n F dX12_readsOn_171 rfl (q := 0) rfl ?_
                  refine gf_X12_102 F hI gs_131 rfl bd_131_11 dX12_readsOn_172 (fun v141 ev141 av141 bv141 => ?_)
                  refine z_imul F dX12_readsOn_175 ?_
                  refine z_wrap (fun v142 rv142 wv142 => ?_)
                  refine z_aload_n F dX12_readsOn_176 rfl (q := 0) rfl ?_
                  refine rf_X12_23 F gs_131 rfl dX12_readsOn_177 ?_
                  refine z_aload_n F dX12_readsOn_180 rfl (q := 0) rfl ?_
                  refine gf_X12_82 F hI gs_131 rfl bd_131_8 dX12_readsOn_181 (fun v143 ev143 av143 bv143 => ?_)
                  have zv143 : u89 = v143 := eu89.trans ev143.symm
                  subst zv143
                  have k144 : 0 ≤ u89 ∧ u89 ≤ 899 := by omega
                  refine z_iald F hI gs_136 (by omega) (by omega) (by decide) bd_136 dX12_readsOn_184 (fun v145 (ev145 : v145 = M77 136 _) av145 bv145 => ?_)
                  refine z_iadd F dX12_readsOn_185 ?_
                  refine z_wrap (fun v146 rv146 wv146 => ?_)
                  refine z_bipush F dX12_readsOn_186 (by decide +kernel) ?_
                  refine z_isub F dX12_readsOn_188 ?_
                  refine z_wrap (fun v147 rv147 wv147 => ?_)
                  refine z_goto (tgt := 196) F dX12_readsOn_189 (by decide +kernel) ?_
                  refine pf_X12_102 F hI gs_131 rfl bd_131_11 rfl rfl dX12_readsOn_196 (by omega) (by omega) (fun M149 hI sf148 f148 => ?_)
                  have hF := hF.wrf f148 (by decide) (by decide)
                  have hW : WFk M149 := hW.site f148 (by decide)
                  refine z_aload_n F dX12_readsOn_199 rfl (q := 0) rfl ?_
                  refine z_dup F dX12_readsOn_200 rfl ?_
                  refine gf_X12_82 F hI gs_131 rfl bd_131_8 dX12_readsOn_201 (fun v150 ev150 av150 bv150 => ?_)
                  have q151 : u89 = M149 131 8 := eu89.trans (f148 131 8 (fun q => absurd q.2 (by decide))).symm
                  have zv150 : u89 = v150 := q151.trans ev150.symm
                  subst zv150
                  have k152 : 0 ≤ u89 ∧ u89 ≤ 899 := by omega
                  refine z_iconst F dX12_readsOn_204 ?_
                  refine z_iadd F dX12_readsOn_205 ?_
                  refine z_nm (fun v153 ev153 => ?_)
                  refine pf_X12_82 F hI gs_131 rfl bd_131_8 rfl rfl dX12_readsOn_206 (by omega) (by omega) (fun M155 hI sf154 f154 => ?_)
                  have hF := hF.wrf f154 (by decide) (by decide)
                  have hW : WFk M155 := hW.site f154 (by decide)
                  refine z_goto (tgt := 141) F dX12_readsOn_209 (by decide +kernel) ?_
                  refine z_loc [0] (ls' := [(0, .ref (ad 131))]) rfl ?_
                  have q156 : u88 = M149 131 7 := eu88.trans (f148 131 7 (fun q => absurd q.2 (by decide))).symm
                  have q157 : u88 = M155 131 7 := q156.trans (f154 131 7 (fun q => absurd q.2 (by decide))).symm
                  have q158 : u90 = M149 131 9 := eu90.trans (f148 131 9 (fun q => absurd q.2 (by decide))).symm
                  have q159 : u90 = M155 131 9 := q158.trans (f154 131 9 (fun q => absurd q.2 (by decide))).symm
                  have q160 : u91 = M149 131 10 := eu91.trans (f148 131 10 (fun q => absurd q.2 (by decide))).symm
                  have q161 : u91 = M155 131 10 := q160.trans (f154 131 10 (fun q => absurd q.2 (by decide))).symm
                  have q162 : u92 = M149 131 12 := eu92.trans (f148 131 12 (fun q => absurd q.2 (by decide))).symm
                  have q163 : u92 = M155 131 12 := q162.trans (f154 131 12 (fun q => absurd q.2 (by decide))).symm
                  have q164 : u93 = M149 131 16 := eu93.trans (f148 131 16 (fun q => absurd q.2 (by decide))).symm
                  have q165 : u93 = M155 131 16 := q164.trans (f154 131 16 (fun q => absurd q.2 (by decide))).symm
                  exact ih141 M155 hI hW hF (by omega) (by omega) (by omega) (by omega) (by omega) (by omega) (by omega) (Or.inl (by omega)) (by omega)
        · refine z_loc [1] (ls' := [(0, .ref (ad 131))]) rfl ?_
          have q167 : u11 = M19 131 10 := eu11.trans (f18 131 10 (fun q => absurd q.2 (by decide))).symm
          have q168 : u12 = M19 131 12 := eu12.trans (f18 131 12 (fun q => absurd q.2 (by decide))).symm
          have q169 : u13 = M19 131 16 := eu13.trans (f18 131 16 (fun q => absurd q.2 (by decide))).symm
          suffices key94 : ∀ (n : Nat) (M166 : Mem), Inv M166 → WFk M166 → Fr [131] M M166 → (M166 131 7 = M 131 7) → (M166 131 12 = M 131 12) → (M166 131 16 = M 131 16) → (M 131 8 ≤ M166 131 8) → (M166 131 8 ≤ M166 131 7) → (M 131 8 ≤ M166 131 9) → (M166 131 9 ≤ M166 131 8) → (M166 131 9 < M166 131 8 ∨ M166 131 8 < M166 131 7 ∧ 97 ≤ M166 136 (M166 131 8).toNat ∧ M166 136 (M166 131 8).toNat ≤ 122) → 900 - M166 131 8 < (n : Int) → Z D cy ad p l e (RMh 2) s m args below meth c A 2 0 0 Q 94 [(0, .ref (ad 131))] [] M166 from key94 901 M19 hI hW hF (by omega) (by omega) (by omega) (by omega) (by omega) (by omega) (by omega) (Or.inr (by rw [← q21]; omega)) (by omega)
          intro n94
          induction n94 with
          | zero => intro M166 hI hW hF i94_0 i94_1 i94_2 i94_3 i94_4 i94_5 i94_6 i94_7 hn94; exfalso; omega
          | succ n94 ih94 =>
            intro M166 hI hW hF i94_0 i94_1 i94_2 i94_3 i94_4 i94_5 i94_6 i94_7 hn94
            obtain ⟨u170, eu170⟩ : ∃ v : Int, v = M166 131 7 := ⟨_, rfl⟩
            have ku170 : 0 ≤ u170 ∧ u170 ≤ 900 := by have := hI.at (show Bd 131 7 = (0, 900) from rfl); omega
            obtain ⟨u171, eu171⟩ : ∃ v : Int, v = M166 131 8 := ⟨_, rfl⟩
            have ku171 : 0 ≤ u171 ∧ u171 ≤ 900 := by have := hI.at (show Bd 131 8 = (0, 900) from rfl); omega
            obtain ⟨u172, eu172⟩ : ∃ v : Int, v = M166 131 9 := ⟨_, rfl⟩
            have ku172 : 0 ≤ u172 ∧ u172 ≤ 900 := by have := hI.at (show Bd 131 9 = (0, 900) from rfl); omega
            obtain ⟨u173, eu173⟩ : ∃ v : Int, v = M166 131 10 := ⟨_, rfl⟩
            have ku173 : (-2147483648) ≤ u173 ∧ u173 ≤ 2147483647 := by have := hI.at (show Bd 131 10 = (-2147483648, 2147483647) from rfl); omega
            obtain ⟨u174, eu174⟩ : ∃ v : Int, v = M166 131 12 := ⟨_, rfl⟩
            have ku174 : 0 ≤ u174 ∧ u174 ≤ 4 := by have := hI.at (show Bd 131 12 = (0, 4) from rfl); omega
            obtain ⟨u175, eu175⟩ : ∃ v : Int, v = M166 131 16 := ⟨_, rfl⟩
            have ku175 : (-2147483648) ≤ u175 ∧ u175 ≤ 2147483647 := by have := hI.at (show Bd 131 16 = (-2147483648, 2147483647) from rfl); omega
            rw [← eu171] at i94_7
            refine z_aload_n F dX12_readsOn_94 rfl (q := 0) rfl ?_
            refine z_aload_n F dX12_readsOn_95 rfl (q := 0) rfl ?_
            refine gf_X12_82 F hI gs_131 rfl bd_131_8 dX12_readsOn_96 (fun v176 ev176 av176 bv176 => ?_)
            have zv176 : u171 = v176 := eu171.trans ev176.symm
            subst zv176
            refine zv_i (rest := []) F (kp_X12_see l M166 ⟨hI, hW⟩ u171 (by omega) (by omega)) cs_X12_95 (T := TX12) (N := 44) (ci := 12) rfl gs_131 (by decide) (by decide) rfl rfl rfl (Nat.le_of_ble_eq_true rfl) dX12_readsOn_99 (fun v177 M178 rv177 hI p179 => ?_)
            obtain ⟨hI, hW⟩ := hI
            obtain ⟨⟨av177, bv177⟩, rfl, xp179⟩ := p179
            refine zs_i (rest := []) F (kp_X12_isLetter l M166 ⟨hI, hW⟩ v177 (by omega) (by omega)) cs_X12_91 (by decide) (by decide) rfl rfl rfl (Nat.le_of_ble_eq_true rfl) dX12_readsOn_102 (fun v180 M181 rv180 hI p182 => ?_)
            obtain ⟨hI, hW⟩ := hI
            obtain ⟨⟨av180, bv180⟩, rfl, xp182⟩ := p182
            refine z_if_eq (tgt := 121) F dX12_readsOn_105 (by decide +kernel) (by omega) (fun c183 => ?_) (fun c183 => ?_)
            · refine z_aload_n F dX12_readsOn_121 rfl (q := 0) rfl ?_
              refine z_iconst F dX12_readsOn_122 ?_
              refine pf_X12_88 F hI gs_131 rfl bd_131_10 rfl rfl dX12_readsOn_123 (by omega) (by omega) (fun M185 hI sf184 f184 => ?_)
              have hF := hF.wrf f184 (by decide) (by decide)
              have hW : WFk M185 := hW.site f184 (by decide)
              refine z_goto (tgt := 263) F dX12_readsOn_126 (by decide +kernel) ?_
              have q186 : u170 = M185 131 7 := eu170.trans (f184 131 7 (fun q => absurd q.2 (by decide))).symm
              have q187 : u171 = M185 131 8 := eu171.trans (f184 131 8 (fun q => absurd q.2 (by decide))).symm
              have q188 : u172 = M185 131 9 := eu172.trans (f184 131 9 (fun q => absurd q.2 (by decide))).symm
              have q189 : u174 = M185 131 12 := eu174.trans (f184 131 12 (fun q => absurd q.2 (by decide))).symm
              have q190 : u175 = M185 131 16 := eu175.trans (f184 131 16 (fun q => absurd q.2 (by decide))).symm
              exact hret _ 263 _ ⟨hI, hW⟩ ⟨hF, (by omega)⟩ dX12_readsOn_263
            · refine z_aload_n F dX12_readsOn_108 rfl (q := 0) rfl ?_
              refine z_dup F dX12_readsOn_109 rfl ?_
              refine gf_X12_82 F hI gs_131 rfl bd_131_8 dX12_readsOn_110 (fun v191 ev191 av191 bv191 => ?_)
              have zv191 : u171 = v191 := eu171.trans ev191.symm
              subst zv191
              have k192 : 0 ≤ u171 ∧ u171 ≤ 899 := by omega
              refine z_iconst F dX12_readsOn_113 ?_
              refine z_iadd F dX12_readsOn_114 ?_
              refine z_nm (fun v193 ev193 => ?_)
              refine pf_X12_82 F hI gs_131 rfl bd_131_8 rfl rfl dX12_readsOn_115 (by omega) (by omega) (fun M195 hI sf194 f194 => ?_)
              have hF := hF.wrf f194 (by decide) (by decide)
              have hW : WFk M195 := hW.site f194 (by decide)
              refine z_goto (tgt := 94) F dX12_readsOn_118 (by decide +kernel) ?_
              refine z_loc [0] (ls' := [(0, .ref (ad 131))]) rfl ?_
              have q196 : u170 = M195 131 7 := eu170.trans (f194 131 7 (fun q => absurd q.2 (by decide))).symm
              have q197 : u172 = M195 131 9 := eu172.trans (f194 131 9 (fun q => absurd q.2 (by decide))).symm
              have q198 : u173 = M195 131 10 := eu173.trans (f194 131 10 (fun q => absurd q.2 (by decide))).symm
              have q199 : u174 = M195 131 12 := eu174.trans (f194 131 12 (fun q => absurd q.2 (by decide))).symm
              have q200 : u175 = M195 131 16 := eu175.trans (f194 131 16 (fun q => absurd q.2 (by decide))).symm
              exact ih94 M195 hI hW hF (by omega) (by omega) (by omega) (by omega) (by omega) (by omega) (by omega) (Or.inl (by omega)) (by omega)
      · refine z_aload_n F dX12_readsOn_71 rfl (q := 0) rfl ?_
        refine z_iconst F dX12_readsOn_72 ?_
        refine pf_X12_88 F hI gs_131 rfl bd_131_10 rfl rfl dX12_readsOn_73 (by omega) (by omega) (fun M202 hI sf201 f201 => ?_)
        have hF := hF.wrf f201 (by decide) (by decide)
        have hW : WFk M202 := hW.site f201 (by decide)
        have q203 : u8 = M202 131 7 := q23.trans (f201 131 7 (fun q => absurd q.2 (by decide))).symm
        have q204 : u9 = M202 131 8 := q21.trans (f201 131 8 (fun q => absurd q.2 (by decide))).symm
        have q205 : u9 = M202 131 9 := sf18.symm.trans (f201 131 9 (fun q => absurd q.2 (by decide))).symm
        have q206 : u12 = M19 131 12 := eu12.trans (f18 131 12 (fun q => absurd q.2 (by decide))).symm
        have q207 : u12 = M202 131 12 := q206.trans (f201 131 12 (fun q => absurd q.2 (by decide))).symm
        have q208 : u13 = M19 131 16 := eu13.trans (f18 131 16 (fun q => absurd q.2 (by decide))).symm
        have q209 : u13 = M202 131 16 := q208.trans (f201 131 16 (fun q => absurd q.2 (by decide))).symm
        exact hret _ 76 _ ⟨hI, hW⟩ ⟨hF, (by omega)⟩ dX12_readsOn_76
    · refine z_aload_n F dX12_readsOn_11 rfl (q := 0) rfl ?_
      refine rf_X12_23 F gs_131 rfl dX12_readsOn_12 ?_
      refine z_aload_n F dX12_readsOn_15 rfl (q := 0) rfl ?_
      refine gf_X12_82 F hI gs_131 rfl bd_131_8 dX12_readsOn_16 (fun v210 ev210 av210 bv210 => ?_)
      have zv210 : u9 = v210 := eu9.trans ev210.symm
      subst zv210
      refine z_iald F hI gs_136 (by omega) (by omega) (by decide) bd_136 dX12_readsOn_19 (fun v211 (ev211 : v211 = M7 136 _) av211 bv211 => ?_)
      refine z_bipush F dX12_readsOn_20 (by decide +kernel) ?_
      refine z_icmp_eq (tgt := 39) F dX12_readsOn_22 (by decide +kernel) (by omega) (by omega) (fun c212 => ?_) (fun c212 => ?_)
      · refine z_aload_n F dX12_readsOn_39 rfl (q := 0) rfl ?_
        refine z_dup F dX12_readsOn_40 rfl ?_
        refine gf_X12_82 F hI gs_131 rfl bd_131_8 dX12_readsOn_41 (fun v213 ev213 av213 bv213 => ?_)
        have zv213 : u9 = v213 := eu9.trans ev213.symm
        subst zv213
        refine z_iconst F dX12_readsOn_44 ?_
        refine z_iadd F dX12_readsOn_45 ?_
        refine z_nm (fun v214 ev214 => ?_)
        refine pf_X12_82 F hI gs_131 rfl bd_131_8 rfl rfl dX12_readsOn_46 (by omega) (by omega) (fun M216 hI sf215 f215 => ?_)
        have hF := hF.wrf f215 (by decide) (by decide)
        have hW : WFk M216 := hW.site f215 (by decide)
        refine z_goto (tgt := 0) F dX12_readsOn_49 (by decide +kernel) ?_
        refine z_loc [0] (ls' := [(0, .ref (ad 131))]) rfl ?_
        have q217 : u8 = M216 131 7 := eu8.trans (f215 131 7 (fun q => absurd q.2 (by decide))).symm
        have q218 : u10 = M216 131 9 := eu10.trans (f215 131 9 (fun q => absurd q.2 (by decide))).symm
        have q219 : u11 = M216 131 10 := eu11.trans (f215 131 10 (fun q => absurd q.2 (by decide))).symm
        have q220 : u12 = M216 131 12 := eu12.trans (f215 131 12 (fun q => absurd q.2 (by decide))).symm
        have q221 : u13 = M216 131 16 := eu13.trans (f215 131 16 (fun q => absurd q.2 (by decide))).symm
        exact ih0 M216 hI hW hF (by omega) (by omega) (by omega) (by omega) (by omega) (by omega)
      · refine z_aload_n F dX12_readsOn_25 rfl (q := 0) rfl ?_
        refine rf_X12_23 F gs_131 rfl dX12_readsOn_26 ?_
        refine z_aload_n F dX12_readsOn_29 rfl (q := 0) rfl ?_
        refine gf_X12_82 F hI gs_131 rfl bd_131_8 dX12_readsOn_30 (fun v222 ev222 av222 bv222 => ?_)
        have zv222 : u9 = v222 := eu9.trans ev222.symm
        subst zv222
        refine z_iald F hI gs_136 (by omega) (by omega) (by decide) bd_136 dX12_readsOn_33 (fun v223 (ev223 : v223 = M7 136 _) av223 bv223 => ?_)
        have zv223 : v211 = v223 := ev211.trans ev223.symm
        subst zv223
        refine z_bipush F dX12_readsOn_34 (by decide +kernel) ?_
        refine z_icmp_ne (tgt := 52) F dX12_readsOn_36 (by decide +kernel) (by omega) (by omega) (fun c224 => ?_) (fun c224 => ?_)
        · refine z_aload_n F dX12_readsOn_52 rfl (q := 0) rfl ?_
          refine z_aload_n F dX12_readsOn_53 rfl (q := 0) rfl ?_
          refine gf_X12_82 F hI gs_131 rfl bd_131_8 dX12_readsOn_54 (fun v225 ev225 av225 bv225 => ?_)
          have zv225 : u9 = v225 := eu9.trans ev225.symm
          subst zv225
          refine pf_X12_85 F hI gs_131 rfl bd_131_9 rfl rfl dX12_readsOn_57 (by omega) (by omega) (fun M227 hI sf226 f226 => ?_)
          have hF := hF.wrf f226 (by decide) (by decide)
          have hW : WFk M227 := hW.site f226 (by decide)
          refine z_aload_n F dX12_readsOn_60 rfl (q := 0) rfl ?_
          refine gf_X12_82 F hI gs_131 rfl bd_131_8 dX12_readsOn_61 (fun v228 ev228 av228 bv228 => ?_)
          have q229 : u9 = M227 131 8 := eu9.trans (f226 131 8 (fun q => absurd q.2 (by decide))).symm
          have zv228 : u9 = v228 := q229.trans ev228.symm
          subst zv228
          refine z_aload_n F dX12_readsOn_64 rfl (q := 0) rfl ?_
          refine gf_X12_79 F hI gs_131 rfl bd_131_7 dX12_readsOn_65 (fun v230 ev230 av230 bv230 => ?_)
          have q231 : u8 = M227 131 7 := eu8.trans (f226 131 7 (fun q => absurd q.2 (by decide))).symm
          have zv230 : u8 = v230 := q231.trans ev230.symm
          subst zv230
          refine z_icmp_lt (tgt := 77) F dX12_readsOn_68 (by decide +kernel) (by omega) (by omega) (fun c232 => ?_) (fun c232 => ?_)
          · refine z_aload_n F dX12_readsOn_77 rfl (q := 0) rfl ?_
            refine rf_X12_23 F gs_131 rfl dX12_readsOn_78 ?_
            refine z_aload_n F dX12_readsOn_81 rfl (q := 0) rfl ?_
            refine gf_X12_82 F hI gs_131 rfl bd_131_8 dX12_readsOn_82 (fun v233 ev233 av233 bv233 => ?_)
            have zv233 : u9 = v233 := q229.trans ev233.symm
            subst zv233
            refine z_iald F hI gs_136 (by omega) (by omega) (by decide) bd_136 dX12_readsOn_85 (fun v234 (ev234 : v234 = M227 136 _) av234 bv234 => ?_)
            have q235 : v211 = M227 136 (u9).toNat := ev211.trans (f226 136 (u9).toNat (fun q => absurd q.1 (by decide))).symm
            have zv234 : v211 = v234 := q235.trans ev234.symm
            subst zv234
            refine z_istore_n F dX12_readsOn_86 rfl (by decide) (ls' := [(1, ii v211), (0, .ref (ad 131))]) rfl ?_
            refine z_iload_n F dX12_readsOn_87 rfl (q := 0) rfl ?_
            refine zs_i (rest := []) F (kp_X12_isLetter l M227 ⟨hI, hW⟩ v211 (by omega) (by omega)) cs_X12_91 (by decide) (by decide) rfl rfl rfl (Nat.le_of_ble_eq_true rfl) dX12_readsOn_88 (fun v236 M237 rv236 hI p238 => ?_)
            obtain ⟨hI, hW⟩ := hI
            obtain ⟨⟨av236, bv236⟩, rfl, xp238⟩ := p238
            refine z_if_eq (tgt := 129) F dX12_readsOn_91 (by decide +kernel) (by omega) (fun c239 => ?_) (fun c239 => ?_)
            · refine z_iload_n F dX12_readsOn_129 rfl (q := 0) rfl ?_
              refine zs_i (rest := []) F (kp_X12_isDigit l M227 ⟨hI, hW⟩ v211 (by omega) (by omega)) cs_X12_99 (by decide) (by decide) rfl rfl rfl (Nat.le_of_ble_eq_true rfl) dX12_readsOn_130 (fun v240 M241 rv240 hI p242 => ?_)
              obtain ⟨hI, hW⟩ := hI
              obtain ⟨⟨av240, bv240⟩, rfl, xp242⟩ := p242
              refine z_if_eq (tgt := 237) F dX12_readsOn_133 (by decide +kernel) (by omega) (fun c243 => ?_) (fun c243 => ?_)
              · refine z_aload_n F dX12_readsOn_237 rfl (q := 1) rfl ?_
                refine z_iload_n F dX12_readsOn_238 rfl (q := 0) rfl ?_
                refine zs_i (rest := [.ref (ad 131)]) F (k_X12_isSignByte l M227 ⟨hI, hW⟩ v211 (by omega) (by omega)) cs_X12_105 (by decide) (by decide) rfl rfl rfl (Nat.le_of_ble_eq_true rfl) dX12_readsOn_239 (fun v244 M245 rv244 hI p246 => ?_)
                obtain ⟨hI, hW⟩ := hI
                obtain ⟨⟨av244, bv244⟩, rfl⟩ := p246
                refine z_if_eq (tgt := 249) F dX12_readsOn_242 (by decide +kernel) (by omega) (fun c247 => ?_) (fun c247 => ?_)
                · refine z_iconst F dX12_readsOn_249 ?_
                  refine pf_X12_88 F hI gs_131 rfl bd_131_10 rfl rfl dX12_readsOn_250 (by omega) (by omega) (fun M249 hI sf248 f248 => ?_)
                  have hF := hF.wrf f248 (by decide) (by decide)
                  have hW : WFk M249 := hW.site f248 (by decide)
                  refine z_aload_n F dX12_readsOn_253 rfl (q := 1) rfl ?_
                  refine z_dup F dX12_readsOn_254 rfl ?_
                  refine gf_X12_82 F hI gs_131 rfl bd_131_8 dX12_readsOn_255 (fun v250 ev250 av250 bv250 => ?_)
                  have q251 : u9 = M249 131 8 := q229.trans (f248 131 8 (fun q => absurd q.2 (by decide))).symm
                  have zv250 : u9 = v250 := q251.trans ev250.symm
                  subst zv250
                  refine z_iconst F dX12_readsOn_258 ?_
                  refine z_iadd F dX12_readsOn_259 ?_
                  refine z_nm (fun v252 ev252 => ?_)
                  refine pf_X12_82 F hI gs_131 rfl bd_131_8 rfl rfl dX12_readsOn_260 (by omega) (by omega) (fun M254 hI sf253 f253 => ?_)
                  have hF := hF.wrf f253 (by decide) (by decide)
                  have hW : WFk M254 := hW.site f253 (by decide)
                  have q255 : u8 = M249 131 7 := q231.trans (f248 131 7 (fun q => absurd q.2 (by decide))).symm
                  have q256 : u8 = M254 131 7 := q255.trans (f253 131 7 (fun q => absurd q.2 (by decide))).symm
                  have q257 : u9 = M249 131 9 := sf226.symm.trans (f248 131 9 (fun q => absurd q.2 (by decide))).symm
                  have q258 : u9 = M254 131 9 := q257.trans (f253 131 9 (fun q => absurd q.2 (by decide))).symm
                  have q259 : 3 = M254 131 10 := sf248.symm.trans (f253 131 10 (fun q => absurd q.2 (by decide))).symm
                  have q260 : u12 = M227 131 12 := eu12.trans (f226 131 12 (fun q => absurd q.2 (by decide))).symm
                  have q261 : u12 = M249 131 12 := q260.trans (f248 131 12 (fun q => absurd q.2 (by decide))).symm
                  have q262 : u12 = M254 131 12 := q261.trans (f253 131 12 (fun q => absurd q.2 (by decide))).symm
                  have q263 : u13 = M227 131 16 := eu13.trans (f226 131 16 (fun q => absurd q.2 (by decide))).symm
                  have q264 : u13 = M249 131 16 := q263.trans (f248 131 16 (fun q => absurd q.2 (by decide))).symm
                  have q265 : u13 = M254 131 16 := q264.trans (f253 131 16 (fun q => absurd q.2 (by decide))).symm
                  exact hret _ 263 _ ⟨hI, hW⟩ ⟨hF, (by omega)⟩ dX12_readsOn_263
                · refine z_iload_n F dX12_readsOn_245 rfl (q := 0) rfl ?_
                  refine z_goto (tgt := 250) F dX12_readsOn_246 (by decide +kernel) ?_
                  refine pf_X12_88 F hI gs_131 rfl bd_131_10 rfl rfl dX12_readsOn_250 (by omega) (by omega) (fun M267 hI sf266 f266 => ?_)
                  have hF := hF.wrf f266 (by decide) (by decide)
                  have hW : WFk M267 := hW.site f266 (by decide)
                  refine z_aload_n F dX12_readsOn_253 rfl (q := 1) rfl ?_
                  refine z_dup F dX12_readsOn_254 rfl ?_
                  refine gf_X12_82 F hI gs_131 rfl bd_131_8 dX12_readsOn_255 (fun v268 ev268 av268 bv268 => ?_)
                  have q269 : u9 = M267 131 8 := q229.trans (f266 131 8 (fun q => absurd q.2 (by decide))).symm
                  have zv268 : u9 = v268 := q269.trans ev268.symm
                  subst zv268
                  refine z_iconst F dX12_readsOn_258 ?_
                  refine z_iadd F dX12_readsOn_259 ?_
                  refine z_nm (fun v270 ev270 => ?_)
                  refine pf_X12_82 F hI gs_131 rfl bd_131_8 rfl rfl dX12_readsOn_260 (by omega) (by omega) (fun M272 hI sf271 f271 => ?_)
                  have hF := hF.wrf f271 (by decide) (by decide)
                  have hW : WFk M272 := hW.site f271 (by decide)
                  have q273 : u8 = M267 131 7 := q231.trans (f266 131 7 (fun q => absurd q.2 (by decide))).symm
                  have q274 : u8 = M272 131 7 := q273.trans (f271 131 7 (fun q => absurd q.2 (by decide))).symm
                  have q275 : u9 = M267 131 9 := sf226.symm.trans (f266 131 9 (fun q => absurd q.2 (by decide))).symm
                  have q276 : u9 = M272 131 9 := q275.trans (f271 131 9 (fun q => absurd q.2 (by decide))).symm
                  have q277 : v211 = M272 131 10 := sf266.symm.trans (f271 131 10 (fun q => absurd q.2 (by decide))).symm
                  have q278 : u12 = M227 131 12 := eu12.trans (f226 131 12 (fun q => absurd q.2 (by decide))).symm
                  have q279 : u12 = M267 131 12 := q278.trans (f266 131 12 (fun q => absurd q.2 (by decide))).symm
                  have q280 : u12 = M272 131 12 := q279.trans (f271 131 12 (fun q => absurd q.2 (by decide))).symm
                  have q281 : u13 = M227 131 16 := eu13.trans (f226 131 16 (fun q => absurd q.2 (by decide))).symm
                  have q282 : u13 = M267 131 16 := q281.trans (f266 131 16 (fun q => absurd q.2 (by decide))).symm
                  have q283 : u13 = M272 131 16 := q282.trans (f271 131 16 (fun q => absurd q.2 (by decide))).symm
                  exact hret _ 263 _ ⟨hI, hW⟩ ⟨hF, (by omega)⟩ dX12_readsOn_263
              · refine z_aload_n F dX12_readsOn_136 rfl (q := 1) rfl ?_
                refine z_iconst F dX12_readsOn_137 ?_
                refine pf_X12_102 F hI gs_131 rfl bd_131_11 rfl rfl dX12_readsOn_138 (by omega) (by omega) (fun M285 hI sf284 f284 => ?_)
                have hF := hF.wrf f284 (by decide) (by decide)
                have hW : WFk M285 := hW.site f284 (by decide)
                have q287 : u9 = M285 131 8 := q229.trans (f284 131 8 (fun q => absurd q.2 (by decide))).symm
                have q288 : v211 = M285 136 (u9).toNat := q235.trans (f284 136 (u9).toNat (fun q => absurd q.1 (by decide))).symm
                refine z_loc [1] (ls' := [(0, .ref (ad 131))]) rfl ?_
                have q289 : u8 = M285 131 7 := q231.trans (f284 131 7 (fun q => absurd q.2 (by decide))).symm
                have q290 : u9 = M285 131 9 := sf226.symm.trans (f284 131 9 (fun q => absurd q.2 (by decide))).symm
                have q291 : u11 = M227 131 10 := eu11.trans (f226 131 10 (fun q => absurd q.2 (by decide))).symm
                have q292 : u11 = M285 131 10 := q291.trans (f284 131 10 (fun q => absurd q.2 (by decide))).symm
                have q293 : u12 = M227 131 12 := eu12.trans (f226 131 12 (fun q => absurd q.2 (by decide))).symm
                have q294 : u12 = M285 131 12 := q293.trans (f284 131 12 (fun q => absurd q.2 (by decide))).symm
                have q295 : u13 = M227 131 16 := eu13.trans (f226 131 16 (fun q => absurd q.2 (by decide))).symm
                have q296 : u13 = M285 131 16 := q295.trans (f284 131 16 (fun q => absurd q.2 (by decide))).symm
                suffices key141 : ∀ (n : Nat) (M286 : Mem), Inv M286 → WFk M286 → Fr [131] M M286 → (M286 131 7 = M 131 7) → (M286 131 12 = M 131 12) → (M286 131 16 = M 131 16) → (M 131 8 ≤ M286 131 8) → (M286 131 8 ≤ M286 131 7) → (M 131 8 ≤ M286 131 9) → (M286 131 9 ≤ M286 131 8) → (M286 131 9 < M286 131 8 ∨ M286 131 8 < M286 131 7 ∧ 48 ≤ M286 136 (M286 131 8).toNat ∧ M286 136 (M286 131 8).toNat ≤ 57) → 900 - M286 131 8 < (n : Int) → Z D cy ad p l e (RMh 2) s m args below meth c A 2 0 0 Q 141 [(0, .ref (ad 131))] [] M286 from key141 901 M285 hI hW hF (by omega) (by omega) (by omega) (by omega) (by omega) (by omega) (by omega) (Or.inr (by rw [← q287]; omega)) (by omega)
                intro n141
                induction n141 with
                | zero => intro M286 hI hW hF i141_0 i141_1 i141_2 i141_3 i141_4 i141_5 i141_6 i141_7 hn141; exfalso; omega
                | succ n141 ih141 =>
                  intro M286 hI hW hF i141_0 i141_1 i141_2 i141_3 i141_4 i141_5 i141_6 i141_7 hn141
                  obtain ⟨u297, eu297⟩ : ∃ v : Int, v = M286 131 7 := ⟨_, rfl⟩
                  have ku297 : 0 ≤ u297 ∧ u297 ≤ 900 := by have := hI.at (show Bd 131 7 = (0, 900) from rfl); omega
                  obtain ⟨u298, eu298⟩ : ∃ v : Int, v = M286 131 8 := ⟨_, rfl⟩
                  have ku298 : 0 ≤ u298 ∧ u298 ≤ 900 := by have := hI.at (show Bd 131 8 = (0, 900) from rfl); omega
                  obtain ⟨u299, eu299⟩ : ∃ v : Int, v = M286 131 9 := ⟨_, rfl⟩
                  have ku299 : 0 ≤ u299 ∧ u299 ≤ 900 := by have := hI.at (show Bd 131 9 = (0, 900) from rfl); omega
                  obtain ⟨u300, eu300⟩ : ∃ v : Int, v = M286 131 10 := ⟨_, rfl⟩
                  have ku300 : (-2147483648) ≤ u300 ∧ u300 ≤ 2147483647 := by have := hI.at (show Bd 131 10 = (-2147483648, 2147483647) from rfl); omega
                  obtain ⟨u301, eu301⟩ : ∃ v : Int, v = M286 131 12 := ⟨_, rfl⟩
                  have ku301 : 0 ≤ u301 ∧ u301 ≤ 4 := by have := hI.at (show Bd 131 12 = (0, 4) from rfl); omega
                  obtain ⟨u302, eu302⟩ : ∃ v : Int, v = M286 131 16 := ⟨_, rfl⟩
                  have ku302 : (-2147483648) ≤ u302 ∧ u302 ≤ 2147483647 := by have := hI.at (show Bd 131 16 = (-2147483648, 2147483647) from rfl); omega
                  rw [← eu298] at i141_7
                  refine z_aload_n F dX12_readsOn_141 rfl (q := 0) rfl ?_
                  refine z_aload_n F dX12_readsOn_142 rfl (q := 0) rfl ?_
                  refine gf_X12_82 F hI gs_131 rfl bd_131_8 dX12_readsOn_143 (fun v303 ev303 av303 bv303 => ?_)
                  have zv303 : u298 = v303 := eu298.trans ev303.symm
                  subst zv303
                  refine zv_i (rest := []) F (kp_X12_see l M286 ⟨hI, hW⟩ u298 (by omega) (by omega)) cs_X12_95 (T := TX12) (N := 44) (ci := 12) rfl gs_131 (by decide) (by decide) rfl rfl rfl (Nat.le_of_ble_eq_true rfl) dX12_readsOn_146 (fun v304 M305 rv304 hI p306 => ?_)
                  obtain ⟨hI, hW⟩ := hI
                  obtain ⟨⟨av304, bv304⟩, rfl, xp306⟩ := p306
                  refine zs_i (rest := []) F (kp_X12_isDigit l M286 ⟨hI, hW⟩ v304 (by omega) (by omega)) cs_X12_99 (by decide) (by decide) rfl rfl rfl (Nat.le_of_ble_eq_true rfl) dX12_readsOn_149 (fun v307 M308 rv307 hI p309 => ?_)
                  obtain ⟨hI, hW⟩ := hI
                  obtain ⟨⟨av307, bv307⟩, rfl, xp309⟩ := p309
                  refine z_if_eq (tgt := 212) F dX12_readsOn_152 (by decide +kernel) (by omega) (fun c310 => ?_) (fun c310 => ?_)
                  · refine z_aload_n F dX12_readsOn_212 rfl (q := 0) rfl ?_
                    refine z_aload_n F dX12_readsOn_213 rfl (q := 0) rfl ?_
                    refine gf_X12_82 F hI gs_131 rfl bd_131_8 dX12_readsOn_214 (fun v311 ev311 av311 bv311 => ?_)
                    have zv311 : u298 = v311 := eu298.trans ev311.symm
                    subst zv311
                    refine z_aload_n F dX12_readsOn_217 rfl (q := 0) rfl ?_
                    refine gf_X12_85 F hI gs_131 rfl bd_131_9 dX12_readsOn_218 (fun v312 ev312 av312 bv312 => ?_)
                    have zv312 : u299 = v312 := eu299.trans ev312.symm
                    subst zv312
                    refine z_isub F dX12_readsOn_221 ?_
                    refine z_iconst F dX12_readsOn_222 ?_
                    refine z_icmp_le (tgt := 230) F dX12_readsOn_223 (by decide +kernel) (by omega) (by omega) (fun c313 => ?_) (fun c313 => ?_)
                    · refine z_iconst F dX12_readsOn_230 ?_
                      refine pf_X12_88 F hI gs_131 rfl bd_131_10 rfl rfl dX12_readsOn_231 (by omega) (by omega) (fun M315 hI sf314 f314 => ?_)
                      have hF := hF.wrf f314 (by decide) (by decide)
                      have hW : WFk M315 := hW.site f314 (by decide)
                      refine z_goto (tgt := 263) F dX12_readsOn_234 (by decide +kernel) ?_
                      have q316 : u297 = M315 131 7 := eu297.trans (f314 131 7 (fun q => absurd q.2 (by decide))).symm
                      have q317 : u298 = M315 131 8 := eu298.trans (f314 131 8 (fun q => absurd q.2 (by decide))).symm
                      have q318 : u299 = M315 131 9 := eu299.trans (f314 131 9 (fun q => absurd q.2 (by decide))).symm
                      have q319 : u301 = M315 131 12 := eu301.trans (f314 131 12 (fun q => absurd q.2 (by decide))).symm
                      have q320 : u302 = M315 131 16 := eu302.trans (f314 131 16 (fun q => absurd q.2 (by decide))).symm
                      exact hret _ 263 _ ⟨hI, hW⟩ ⟨hF, (by omega)⟩ dX12_readsOn_263
                    · refine z_iconst F dX12_readsOn_226 ?_
                      refine z_goto (tgt := 231) F dX12_readsOn_227 (by decide +kernel) ?_
                      refine pf_X12_88 F hI gs_131 rfl bd_131_10 rfl rfl dX12_readsOn_231 (by omega) (by omega) (fun M322 hI sf321 f321 => ?_)
                      have hF := hF.wrf f321 (by decide) (by decide)
                      have hW : WFk M322 := hW.site f321 (by decide)
                      refine z_goto (tgt := 263) F dX12_readsOn_234 (by decide +kernel) ?_
                      have q323 : u297 = M322 131 7 := eu297.trans (f321 131 7 (fun q => absurd q.2 (by decide))).symm
                      have q324 : u298 = M322 131 8 := eu298.trans (f321 131 8 (fun q => absurd q.2 (by decide))).symm
                      have q325 : u299 = M322 131 9 := eu299.trans (f321 131 9 (fun q => absurd q.2 (by decide))).symm
                      have q326 : u301 = M322 131 12 := eu301.trans (f321 131 12 (fun q => absurd q.2 (by decide))).symm
                      have q327 : u302 = M322 131 16 := eu302.trans (f321 131 16 (fun q => absurd q.2 (by decide))).symm
                      exact hret _ 263 _ ⟨hI, hW⟩ ⟨hF, (by omega)⟩ dX12_readsOn_263
                  · refine z_aload_n F dX12_readsOn_155 rfl (q := 0) rfl ?_
                    refine z_aload_n F dX12_readsOn_156 rfl (q := 0) rfl ?_
                    refine gf_X12_82 F hI gs_131 rfl bd_131_8 dX12_readsOn_157 (fun v328 ev328 av328 bv328 => ?_)
                    have zv328 : u298 = v328 := eu298.trans ev328.symm
                    subst zv328
                    refine z_aload_n F dX12_readsOn_160 rfl (q := 0) rfl ?_
                    refine gf_X12_85 F hI gs_131 rfl bd_131_9 dX12_readsOn_161 (fun v329 ev329 av329 bv329 => ?_)
                    have zv329 : u299 = v329 := eu299.trans ev329.symm
                    subst zv329
                    refine z_isub F dX12_readsOn_164 ?_
                    refine z_iconst F dX12_readsOn_165 ?_
                    refine z_icmp_ge (tgt := 192) F dX12_readsOn_166 (by decide +kernel) (by omega) (by omega) (fun c330 => ?_) (fun c330 => ?_)
                    · refine z_aload_n F dX12_readsOn_192 rfl (q := 0) rfl ?_
                      refine gf_X12_102 F hI gs_131 rfl bd_131_11 dX12_readsOn_193 (fun v331 ev331 av331 bv331 => ?_)
                      refine pf_X12_102 F hI gs_131 rfl bd_131_11 rfl rfl dX12_readsOn_196 (by omega) (by omega) (fun M333 hI sf332 f332 => ?_)
                      have hF := hF.wrf f332 (by decide) (by decide)
                      have hW : WFk M333 := hW.site f332 (by decide)
                      refine z_aload_n F dX12_readsOn_199 rfl (q := 0) rfl ?_
                      refine z_dup F dX12_readsOn_200 rfl ?_
                      refine gf_X12_82 F hI gs_131 rfl bd_131_8 dX12_readsOn_201 (fun v334 ev334 av334 bv334 => ?_)
                      have q335 : u298 = M333 131 8 := eu298.trans (f332 131 8 (fun q => absurd q.2 (by decide))).symm
                      have zv334 : u298 = v334 := q335.trans ev334.symm
                      subst zv334
                      have k336 : 0 ≤ u298 ∧ u298 ≤ 899 := by omega
                      refine z_iconst F dX12_readsOn_204 ?_
                      refine z_iadd F dX12_readsOn_205 ?_
                      refine z_nm (fun v337 ev337 => ?_)
                      refine pf_X12_82 F hI gs_131 rfl bd_131_8 rfl rfl dX12_readsOn_206 (by omega) (by omega) (fun M339 hI sf338 f338 => ?_)
                      have hF := hF.wrf f338 (by decide) (by decide)
                      have hW : WFk M339 := hW.site f338 (by decide)
                      refine z_goto (tgt := 141) F dX12_readsOn_209 (by decide +kernel) ?_
                      refine z_loc [0] (ls' := [(0, .ref (ad 131))]) rfl ?_
                      have q340 : u297 = M333 131 7 := eu297.trans (f332 131 7 (fun q => absurd q.2 (by decide))).symm
                      have q341 : u297 = M339 131 7 := q340.trans (f338 131 7 (fun q => absurd q.2 (by decide))).symm
                      have q342 : u299 = M333 131 9 := eu299.trans (f332 131 9 (fun q => absurd q.2 (by decide))).symm
                      have q343 : u299 = M339 131 9 := q342.trans (f338 131 9 (fun q => absurd q.2 (by decide))).symm
                      have q344 : u300 = M333 131 10 := eu300.trans (f332 131 10 (fun q => absurd q.2 (by decide))).symm
                      have q345 : u300 = M339 131 10 := q344.trans (f338 131 10 (fun q => absurd q.2 (by decide))).symm
                      have q346 : u301 = M333 131 12 := eu301.trans (f332 131 12 (fun q => absurd q.2 (by decide))).symm
                      have q347 : u301 = M339 131 12 := q346.trans (f338 131 12 (fun q => absurd q.2 (by decide))).symm
                      have q348 : u302 = M333 131 16 := eu302.trans (f332 131 16 (fun q => absurd q.2 (by decide))).symm
                      have q349 : u302 = M339 131 16 := q348.trans (f338 131 16 (fun q => absurd q.2 (by decide))).symm
                      exact ih141 M339 hI hW hF (by omega) (by omega) (by omega) (by omega) (by omega) (by omega) (by omega) (Or.inl (by omega)) (by omega)
                    · refine z_bipush F dX12_readsOn_169 (by decide +kernel) ?_
                      refine z_aload_n F dX12_readsOn_171 rfl (q := 0) rfl ?_
                      refine gf_X12_102 F hI gs_131 rfl bd_131_11 dX12_readsOn_172 (fun v350 ev350 av350 bv350 => ?_)
                      refine z_imul F dX12_readsOn_175 ?_
                      refine z_wrap (fun v351 rv351 wv351 => ?_)
                      refine z_aload_n F dX12_readsOn_176 rfl (q := 0) rfl ?_
                      refine rf_X12_23 F gs_131 rfl dX12_readsOn_177 ?_
                      refine z_aload_n F dX12_readsOn_180 rfl (q := 0) rfl ?_
                      refine gf_X12_82 F hI gs_131 rfl bd_131_8 dX12_readsOn_181 (fun v352 ev352 av352 bv352 => ?_)
                      have zv352 : u298 = v352 := eu298.trans ev352.symm
                      subst zv352
                      have k353 : 0 ≤ u298 ∧ u298 ≤ 899 := by omega
                      refine z_iald F hI gs_136 (by omega) (by omega) (by decide) bd_136 dX12_readsOn_184 (fun v354 (ev354 : v354 = M286 136 _) av354 bv354 => ?_)
                      refine z_iadd F dX12_readsOn_185 ?_
                      refine z_wrap (fun v355 rv355 wv355 => ?_)
                      refine z_bipush F dX12_readsOn_186 (by decide +kernel) ?_
                      refine z_isub F dX12_readsOn_188 ?_
                      refine z_wrap (fun v356 rv356 wv356 => ?_)
                      refine z_goto (tgt := 196) F dX12_readsOn_189 (by decide +kernel) ?_
                      refine pf_X12_102 F hI gs_131 rfl bd_131_11 rfl rfl dX12_readsOn_196 (by omega) (by omega) (fun M358 hI sf357 f357 => ?_)
                      have hF := hF.wrf f357 (by decide) (by decide)
                      have hW : WFk M358 := hW.site f357 (by decide)
                      refine z_aload_n F dX12_readsOn_199 rfl (q := 0) rfl ?_
                      refine z_dup F dX12_readsOn_200 rfl ?_
                      refine gf_X12_82 F hI gs_131 rfl bd_131_8 dX12_readsOn_201 (fun v359 ev359 av359 bv359 => ?_)
                      have q360 : u298 = M358 131 8 := eu298.trans (f357 131 8 (fun q => absurd q.2 (by decide))).symm
                      have zv359 : u298 = v359 := q360.trans ev359.symm
                      subst zv359
                      have k361 : 0 ≤ u298 ∧ u298 ≤ 899 := by omega
                      refine z_iconst F dX12_readsOn_204 ?_
                      refine z_iadd F dX12_readsOn_205 ?_
                      refine z_nm (fun v362 ev362 => ?_)
                      refine pf_X12_82 F hI gs_131 rfl bd_131_8 rfl rfl dX12_readsOn_206 (by omega) (by omega) (fun M364 hI sf363 f363 => ?_)
                      have hF := hF.wrf f363 (by decide) (by decide)
                      have hW : WFk M364 := hW.site f363 (by decide)
                      refine z_goto (tgt := 141) F dX12_readsOn_209 (by decide +kernel) ?_
                      refine z_loc [0] (ls' := [(0, .ref (ad 131))]) rfl ?_
                      have q365 : u297 = M358 131 7 := eu297.trans (f357 131 7 (fun q => absurd q.2 (by decide))).symm
                      have q366 : u297 = M364 131 7 := q365.trans (f363 131 7 (fun q => absurd q.2 (by decide))).symm
                      have q367 : u299 = M358 131 9 := eu299.trans (f357 131 9 (fun q => absurd q.2 (by decide))).symm
                      have q368 : u299 = M364 131 9 := q367.trans (f363 131 9 (fun q => absurd q.2 (by decide))).symm
                      have q369 : u300 = M358 131 10 := eu300.trans (f357 131 10 (fun q => absurd q.2 (by decide))).symm
                      have q370 : u300 = M364 131 10 := q369.trans (f363 131 10 (fun q => absurd q.2 (by decide))).symm
                      have q371 : u301 = M358 131 12 := eu301.trans (f357 131 12 (fun q => absurd q.2 (by decide))).symm
                      have q372 : u301 = M364 131 12 := q371.trans (f363 131 12 (fun q => absurd q.2 (by decide))).symm
                      have q373 : u302 = M358 131 16 := eu302.trans (f357 131 16 (fun q => absurd q.2 (by decide))).symm
                      have q374 : u302 = M364 131 16 := q373.trans (f363 131 16 (fun q => absurd q.2 (by decide))).symm
                      exact ih141 M364 hI hW hF (by omega) (by omega) (by omega) (by omega) (by omega) (by omega) (by omega) (Or.inl (by omega)) (by omega)
            · refine z_loc [1] (ls' := [(0, .ref (ad 131))]) rfl ?_
              have q376 : u11 = M227 131 10 := eu11.trans (f226 131 10 (fun q => absurd q.2 (by decide))).symm
              have q377 : u12 = M227 131 12 := eu12.trans (f226 131 12 (fun q => absurd q.2 (by decide))).symm
              have q378 : u13 = M227 131 16 := eu13.trans (f226 131 16 (fun q => absurd q.2 (by decide))).symm
              suffices key94 : ∀ (n : Nat) (M375 : Mem), Inv M375 → WFk M375 → Fr [131] M M375 → (M375 131 7 = M 131 7) → (M375 131 12 = M 131 12) → (M375 131 16 = M 131 16) → (M 131 8 ≤ M375 131 8) → (M375 131 8 ≤ M375 131 7) → (M 131 8 ≤ M375 131 9) → (M375 131 9 ≤ M375 131 8) → (M375 131 9 < M375 131 8 ∨ M375 131 8 < M375 131 7 ∧ 97 ≤ M375 136 (M375 131 8).toNat ∧ M375 136 (M375 131 8).toNat ≤ 122) → 900 - M375 131 8 < (n : Int) → Z D cy ad p l e (RMh 2) s m args below meth c A 2 0 0 Q 94 [(0, .ref (ad 131))] [] M375 from key94 901 M227 hI hW hF (by omega) (by omega) (by omega) (by omega) (by omega) (by omega) (by omega) (Or.inr (by rw [← q229]; omega)) (by omega)
              intro n94
              induction n94 with
              | zero => intro M375 hI hW hF i94_0 i94_1 i94_2 i94_3 i94_4 i94_5 i94_6 i94_7 hn94; exfalso; omega
              | succ n94 ih94 =>
                intro M375 hI hW hF i94_0 i94_1 i94_2 i94_3 i94_4 i94_5 i94_6 i94_7 hn94
                obtain ⟨u379, eu379⟩ : ∃ v : Int, v = M375 131 7 := ⟨_, rfl⟩
                have ku379 : 0 ≤ u379 ∧ u379 ≤ 900 := by have := hI.at (show Bd 131 7 = (0, 900) from rfl); omega
                obtain ⟨u380, eu380⟩ : ∃ v : Int, v = M375 131 8 := ⟨_, rfl⟩
                have ku380 : 0 ≤ u380 ∧ u380 ≤ 900 := by have := hI.at (show Bd 131 8 = (0, 900) from rfl); omega
                obtain ⟨u381, eu381⟩ : ∃ v : Int, v = M375 131 9 := ⟨_, rfl⟩
                have ku381 : 0 ≤ u381 ∧ u381 ≤ 900 := by have := hI.at (show Bd 131 9 = (0, 900) from rfl); omega
                obtain ⟨u382, eu382⟩ : ∃ v : Int, v = M375 131 10 := ⟨_, rfl⟩
                have ku382 : (-2147483648) ≤ u382 ∧ u382 ≤ 2147483647 := by have := hI.at (show Bd 131 10 = (-2147483648, 2147483647) from rfl); omega
                obtain ⟨u383, eu383⟩ : ∃ v : Int, v = M375 131 12 := ⟨_, rfl⟩
                have ku383 : 0 ≤ u383 ∧ u383 ≤ 4 := by have := hI.at (show Bd 131 12 = (0, 4) from rfl); omega
                obtain ⟨u384, eu384⟩ : ∃ v : Int, v = M375 131 16 := ⟨_, rfl⟩
                have ku384 : (-2147483648) ≤ u384 ∧ u384 ≤ 2147483647 := by have := hI.at (show Bd 131 16 = (-2147483648, 2147483647) from rfl); omega
                rw [← eu380] at i94_7
                refine z_aload_n F dX12_readsOn_94 rfl (q := 0) rfl ?_
                refine z_aload_n F dX12_readsOn_95 rfl (q := 0) rfl ?_
                refine gf_X12_82 F hI gs_131 rfl bd_131_8 dX12_readsOn_96 (fun v385 ev385 av385 bv385 => ?_)
                have zv385 : u380 = v385 := eu380.trans ev385.symm
                subst zv385
                refine zv_i (rest := []) F (kp_X12_see l M375 ⟨hI, hW⟩ u380 (by omega) (by omega)) cs_X12_95 (T := TX12) (N := 44) (ci := 12) rfl gs_131 (by decide) (by decide) rfl rfl rfl (Nat.le_of_ble_eq_true rfl) dX12_readsOn_99 (fun v386 M387 rv386 hI p388 => ?_)
                obtain ⟨hI, hW⟩ := hI
                obtain ⟨⟨av386, bv386⟩, rfl, xp388⟩ := p388
                refine zs_i (rest := []) F (kp_X12_isLetter l M375 ⟨hI, hW⟩ v386 (by omega) (by omega)) cs_X12_91 (by decide) (by decide) rfl rfl rfl (Nat.le_of_ble_eq_true rfl) dX12_readsOn_102 (fun v389 M390 rv389 hI p391 => ?_)
                obtain ⟨hI, hW⟩ := hI
                obtain ⟨⟨av389, bv389⟩, rfl, xp391⟩ := p391
                refine z_if_eq (tgt := 121) F dX12_readsOn_105 (by decide +kernel) (by omega) (fun c392 => ?_) (fun c392 => ?_)
                · refine z_aload_n F dX12_readsOn_121 rfl (q := 0) rfl ?_
                  refine z_iconst F dX12_readsOn_122 ?_
                  refine pf_X12_88 F hI gs_131 rfl bd_131_10 rfl rfl dX12_readsOn_123 (by omega) (by omega) (fun M394 hI sf393 f393 => ?_)
                  have hF := hF.wrf f393 (by decide) (by decide)
                  have hW : WFk M394 := hW.site f393 (by decide)
                  refine z_goto (tgt := 263) F dX12_readsOn_126 (by decide +kernel) ?_
                  have q395 : u379 = M394 131 7 := eu379.trans (f393 131 7 (fun q => absurd q.2 (by decide))).symm
                  have q396 : u380 = M394 131 8 := eu380.trans (f393 131 8 (fun q => absurd q.2 (by decide))).symm
                  have q397 : u381 = M394 131 9 := eu381.trans (f393 131 9 (fun q => absurd q.2 (by decide))).symm
                  have q398 : u383 = M394 131 12 := eu383.trans (f393 131 12 (fun q => absurd q.2 (by decide))).symm
                  have q399 : u384 = M394 131 16 := eu384.trans (f393 131 16 (fun q => absurd q.2 (by decide))).symm
                  exact hret _ 263 _ ⟨hI, hW⟩ ⟨hF, (by omega)⟩ dX12_readsOn_263
                · refine z_aload_n F dX12_readsOn_108 rfl (q := 0) rfl ?_
                  refine z_dup F dX12_readsOn_109 rfl ?_
                  refine gf_X12_82 F hI gs_131 rfl bd_131_8 dX12_readsOn_110 (fun v400 ev400 av400 bv400 => ?_)
                  have zv400 : u380 = v400 := eu380.trans ev400.symm
                  subst zv400
                  have k401 : 0 ≤ u380 ∧ u380 ≤ 899 := by omega
                  refine z_iconst F dX12_readsOn_113 ?_
                  refine z_iadd F dX12_readsOn_114 ?_
                  refine z_nm (fun v402 ev402 => ?_)
                  refine pf_X12_82 F hI gs_131 rfl bd_131_8 rfl rfl dX12_readsOn_115 (by omega) (by omega) (fun M404 hI sf403 f403 => ?_)
                  have hF := hF.wrf f403 (by decide) (by decide)
                  have hW : WFk M404 := hW.site f403 (by decide)
                  refine z_goto (tgt := 94) F dX12_readsOn_118 (by decide +kernel) ?_
                  refine z_loc [0] (ls' := [(0, .ref (ad 131))]) rfl ?_
                  have q405 : u379 = M404 131 7 := eu379.trans (f403 131 7 (fun q => absurd q.2 (by decide))).symm
                  have q406 : u381 = M404 131 9 := eu381.trans (f403 131 9 (fun q => absurd q.2 (by decide))).symm
                  have q407 : u382 = M404 131 10 := eu382.trans (f403 131 10 (fun q => absurd q.2 (by decide))).symm
                  have q408 : u383 = M404 131 12 := eu383.trans (f403 131 12 (fun q => absurd q.2 (by decide))).symm
                  have q409 : u384 = M404 131 16 := eu384.trans (f403 131 16 (fun q => absurd q.2 (by decide))).symm
                  exact ih94 M404 hI hW hF (by omega) (by omega) (by omega) (by omega) (by omega) (by omega) (by omega) (Or.inl (by omega)) (by omega)
          · refine z_aload_n F dX12_readsOn_71 rfl (q := 0) rfl ?_
            refine z_iconst F dX12_readsOn_72 ?_
            refine pf_X12_88 F hI gs_131 rfl bd_131_10 rfl rfl dX12_readsOn_73 (by omega) (by omega) (fun M411 hI sf410 f410 => ?_)
            have hF := hF.wrf f410 (by decide) (by decide)
            have hW : WFk M411 := hW.site f410 (by decide)
            have q412 : u8 = M411 131 7 := q231.trans (f410 131 7 (fun q => absurd q.2 (by decide))).symm
            have q413 : u9 = M411 131 8 := q229.trans (f410 131 8 (fun q => absurd q.2 (by decide))).symm
            have q414 : u9 = M411 131 9 := sf226.symm.trans (f410 131 9 (fun q => absurd q.2 (by decide))).symm
            have q415 : u12 = M227 131 12 := eu12.trans (f226 131 12 (fun q => absurd q.2 (by decide))).symm
            have q416 : u12 = M411 131 12 := q415.trans (f410 131 12 (fun q => absurd q.2 (by decide))).symm
            have q417 : u13 = M227 131 16 := eu13.trans (f226 131 16 (fun q => absurd q.2 (by decide))).symm
            have q418 : u13 = M411 131 16 := q417.trans (f410 131 16 (fun q => absurd q.2 (by decide))).symm
            exact hret _ 76 _ ⟨hI, hW⟩ ⟨hF, (by omega)⟩ dX12_readsOn_76
        · refine z_aload_n F dX12_readsOn_39 rfl (q := 0) rfl ?_
          refine z_dup F dX12_readsOn_40 rfl ?_
          refine gf_X12_82 F hI gs_131 rfl bd_131_8 dX12_readsOn_41 (fun v419 ev419 av419 bv419 => ?_)
          have zv419 : u9 = v419 := eu9.trans ev419.symm
          subst zv419
          refine z_iconst F dX12_readsOn_44 ?_
          refine z_iadd F dX12_readsOn_45 ?_
          refine z_nm (fun v420 ev420 => ?_)
          refine pf_X12_82 F hI gs_131 rfl bd_131_8 rfl rfl dX12_readsOn_46 (by omega) (by omega) (fun M422 hI sf421 f421 => ?_)
          have hF := hF.wrf f421 (by decide) (by decide)
          have hW : WFk M422 := hW.site f421 (by decide)
          refine z_goto (tgt := 0) F dX12_readsOn_49 (by decide +kernel) ?_
          refine z_loc [0] (ls' := [(0, .ref (ad 131))]) rfl ?_
          have q423 : u8 = M422 131 7 := eu8.trans (f421 131 7 (fun q => absurd q.2 (by decide))).symm
          have q424 : u10 = M422 131 9 := eu10.trans (f421 131 9 (fun q => absurd q.2 (by decide))).symm
          have q425 : u11 = M422 131 10 := eu11.trans (f421 131 10 (fun q => absurd q.2 (by decide))).symm
          have q426 : u12 = M422 131 12 := eu12.trans (f421 131 12 (fun q => absurd q.2 (by decide))).symm
          have q427 : u13 = M422 131 16 := eu13.trans (f421 131 16 (fun q => absurd q.2 (by decide))).symm
          exact ih0 M422 hI hW hF (by omega) (by omega) (by omega) (by omega) (by omega) (by omega)
set_option maxHeartbeats 4000000 in
set_option maxRecDepth 4000 in
theorem kp_X12_laysStep (l : Launch) (M : Mem) (hJ : Iw M) (x0 : Int) (hx0a : 10 ≤ x0) (hx0b : x0 ≤ 1999) (hp0 : ¬ M 131 12 = 0 ∨ M 133 6 ≤ 899) (hp1 : Wl M) (hp2 : ¬ M 131 12 = 0 ∨ 100 ≤ x0 ∧ 0 ≤ Cu M ∧ Cu M ≤ 63 ∨ x0 = 18 ∧ 1 ≤ Cu M ∧ Cu M ≤ 64 ∨ x0 < 100 ∧ ¬ x0 = 18 ∧ 2 ≤ Cu M ∧ Cu M ≤ 65) : CV l yX12_laysStep cX12_laysStep 2 none 1 (fun ad => [.ref (ad 131), ii x0]) M (fun M' => Fr [133] M M' ∧ (Wl M' ∧ (¬ M 131 12 = 0 ∧ M' 133 6 = M 133 6 ∧ Cu M' = Cu M ∨ M 131 12 = 0 ∧ M' 133 6 = M 133 6 + 1 ∧ (100 ≤ x0 ∧ Cu M' = Cu M + 1 ∨ x0 = 18 ∧ Cu M' = Cu M ∨ x0 < 100 ∧ ¬ x0 = 18 ∧ Cu M' = Cu M - 1)) ∧ M' 133 1 = M 133 1)) := by
  obtain ⟨hI, hW⟩ := hJ
  have hF : Fr [133] M M := Fr.rf
  refine en_v (by decide +kernel) (fun ad => by exact Nat.le_of_ble_eq_true rfl) (fun D cy ad A p e s m args below meth c Q F hret => ?_)
  refine z_eq (ls' := [(0, .ref (ad 131)), (1, ii x0)]) rfl rfl rfl ?_
  obtain ⟨u1, eu1⟩ : ∃ v : Int, v = M 133 6 := ⟨_, rfl⟩
  have ku1 : 0 ≤ u1 ∧ u1 ≤ 900 := by have := hI.at (show Bd 133 6 = (0, 900) from rfl); omega
  refine z_aload_n F dX12_laysStep_0 rfl (q := 0) rfl ?_
  refine gf_X12_108 F hI gs_131 rfl bd_131_12 dX12_laysStep_1 (fun v2 ev2 av2 bv2 => ?_)
  refine z_if_eq (tgt := 8) F dX12_laysStep_4 (by decide +kernel) (by omega) (fun c3 => ?_) (fun c3 => ?_)
  · refine z_aload_n F dX12_laysStep_8 rfl (q := 0) rfl ?_
    refine rf_X12_13 F gs_131 rfl dX12_laysStep_9 ?_
    refine z_sipush F dX12_laysStep_12 (by decide +kernel) ?_
    refine z_aload_n F dX12_laysStep_15 rfl (q := 0) rfl ?_
    refine rf_X12_13 F gs_131 rfl dX12_laysStep_16 ?_
    refine z_bipush F dX12_laysStep_19 (by decide +kernel) ?_
    refine z_iald F hI gs_133 (by omega) (by omega) (by decide) (show Bd 133 6 = (0, 900) from rfl) dX12_laysStep_21 (fun v4 (ev4 : v4 = M 133 6) av4 bv4 => ?_)
    have zv4 : u1 = v4 := eu1.trans ev4.symm
    subst zv4
    refine z_iadd F dX12_laysStep_22 ?_
    refine z_iload_n F dX12_laysStep_23 rfl (q := 1) rfl ?_
    have k5 : 384 ≤ (384 + u1) ∧ (384 + u1) ≤ 1283 := by omega
    refine z_iast F hI gs_133 (by omega) (by omega) (by decide) (bd_133.trans (kn_step (by omega))) dX12_laysStep_24 (by omega) (by omega) (fun M7 hI sf6 f6 => ?_)
    have tM7_133_1 : M7 133 1 = M 133 1 := f6 133 1 (fun q => by have := q.2; omega)
    have hF := hF.wr f6 (by decide) (by decide)
    have hW : WFk M7 := hW.site f6 (by decide)
    refine z_aload_n F dX12_laysStep_25 rfl (q := 0) rfl ?_
    refine rf_X12_13 F gs_131 rfl dX12_laysStep_26 ?_
    refine z_bipush F dX12_laysStep_29 (by decide +kernel) ?_
    refine z_dup2 F dX12_laysStep_31 rfl rfl ?_
    refine z_iald F hI gs_133 (by omega) (by omega) (by decide) (show Bd 133 6 = (0, 900) from rfl) dX12_laysStep_32 (fun v8 (ev8 : v8 = M7 133 6) av8 bv8 => ?_)
    have q9 : u1 = M7 133 6 := eu1.trans (f6 133 6 (fun q => by omega)).symm
    have zv8 : u1 = v8 := q9.trans ev8.symm
    subst zv8
    refine z_iconst F dX12_laysStep_33 ?_
    refine z_iadd F dX12_laysStep_34 ?_
    have k10 : 0 ≤ (u1 + 1) ∧ (u1 + 1) ≤ 900 := by omega
    refine z_nm (fun v12 ev12 => ?_)
    refine z_iast F hI gs_133 (by omega) (by omega) (by decide) (show Bd 133 6 = (0, 900) from rfl) dX12_laysStep_35 (by omega) (by omega) (fun M13 hI sf11 f11 => ?_)
    have tM13_133_1 : M13 133 1 = M7 133 1 := f11 133 1 (fun q => absurd q.2 (by decide))
    have hF := hF.wr f11 (by decide) (by decide)
    have hW : WFk M13 := hW.site f11 (by decide)
    have sf11 : M13 133 6 = v12 := sf11
    have hws := wl_step (x := x0) (n := u1) (by omega) eu1 sf6 f6 (sf11.trans (by omega)) f11
    have hdx := dl_cs x0
    exact hret _ 36 _ ⟨hI, hW⟩ ⟨hF, ⟨hws.2 hp1 (by omega) (by omega), by omega⟩⟩ dX12_laysStep_36
  · exact hret _ 7 _ ⟨hI, hW⟩ ⟨hF, ⟨by assumption, by omega⟩⟩ dX12_laysStep_7
set_option maxHeartbeats 4000000 in
set_option maxRecDepth 4000 in
theorem kp_X12_blames (l : Launch) (M : Mem) (hJ : Iw M) (x0 : Int) (hx0a : 1 ≤ x0) (hx0b : x0 ≤ 4) : CV l yX12_blames cX12_blames 2 none 1 (fun ad => [.ref (ad 131), ii x0]) M (fun M' => Fr [131] M M' ∧ (1 ≤ M' 131 12 ∧ M' 131 7 = M 131 7 ∧ M' 131 8 = M 131 8 ∧ M' 131 9 = M 131 9 ∧ M' 131 10 = M 131 10 ∧ M' 131 16 = M 131 16)) := by
  obtain ⟨hI, hW⟩ := hJ
  have hF : Fr [131] M M := Fr.rf
  refine en_v (by decide +kernel) (fun ad => by exact Nat.le_of_ble_eq_true rfl) (fun D cy ad A p e s m args below meth c Q F hret => ?_)
  refine z_eq (ls' := [(0, .ref (ad 131)), (1, ii x0)]) rfl rfl rfl ?_
  refine z_aload_n F dX12_blames_0 rfl (q := 0) rfl ?_
  refine gf_X12_108 F hI gs_131 rfl bd_131_12 dX12_blames_1 (fun v1 ev1 av1 bv1 => ?_)
  refine z_if_eq (tgt := 8) F dX12_blames_4 (by decide +kernel) (by omega) (fun c2 => ?_) (fun c2 => ?_)
  · refine z_aload_n F dX12_blames_8 rfl (q := 0) rfl ?_
    refine z_aload_n F dX12_blames_9 rfl (q := 0) rfl ?_
    refine gf_X12_88 F hI gs_131 rfl bd_131_10 dX12_blames_10 (fun v3 ev3 av3 bv3 => ?_)
    refine z_iconst F dX12_blames_13 ?_
    refine z_icmp_ne (tgt := 21) F dX12_blames_14 (by decide +kernel) (by omega) (by omega) (fun c4 => ?_) (fun c4 => ?_)
    · refine z_iload_n F dX12_blames_21 rfl (q := 1) rfl ?_
      refine pf_X12_108 F hI gs_131 rfl bd_131_12 rfl rfl dX12_blames_22 (by omega) (by omega) (fun M6 hI sf5 f5 => ?_)
      have tM6_131_7 : M6 131 7 = M 131 7 := f5 131 7 (fun q => absurd q.2 (by decide))
      have tM6_131_8 : M6 131 8 = M 131 8 := f5 131 8 (fun q => absurd q.2 (by decide))
      have tM6_131_9 : M6 131 9 = M 131 9 := f5 131 9 (fun q => absurd q.2 (by decide))
      have tM6_131_10 : M6 131 10 = M 131 10 := f5 131 10 (fun q => absurd q.2 (by decide))
      have tM6_131_16 : M6 131 16 = M 131 16 := f5 131 16 (fun q => absurd q.2 (by decide))
      have tM6_133_6 : M6 133 6 = M 133 6 := f5 133 6 (fun q => absurd q.1 (by decide))
      have tM6_133_1 : M6 133 1 = M 133 1 := f5 133 1 (fun q => absurd q.1 (by decide))
      have hF := hF.wrf f5 (by decide) (by decide)
      have hW : WFk M6 := hW.site f5 (by decide)
      refine z_aload_n F dX12_blames_25 rfl (q := 0) rfl ?_
      refine z_aload_n F dX12_blames_26 rfl (q := 0) rfl ?_
      refine gf_X12_85 F hI gs_131 rfl bd_131_9 dX12_blames_27 (fun v7 ev7 av7 bv7 => ?_)
      refine pf_X12_111 F hI gs_131 rfl bd_131_13 rfl rfl dX12_blames_30 (by omega) (by omega) (fun M9 hI sf8 f8 => ?_)
      have tM9_131_7 : M9 131 7 = M6 131 7 := f8 131 7 (fun q => absurd q.2 (by decide))
      have tM9_131_8 : M9 131 8 = M6 131 8 := f8 131 8 (fun q => absurd q.2 (by decide))
      have tM9_131_9 : M9 131 9 = M6 131 9 := f8 131 9 (fun q => absurd q.2 (by decide))
      have tM9_131_10 : M9 131 10 = M6 131 10 := f8 131 10 (fun q => absurd q.2 (by decide))
      have tM9_131_12 : M9 131 12 = M6 131 12 := f8 131 12 (fun q => absurd q.2 (by decide))
      have tM9_131_16 : M9 131 16 = M6 131 16 := f8 131 16 (fun q => absurd q.2 (by decide))
      have tM9_133_6 : M9 133 6 = M6 133 6 := f8 133 6 (fun q => absurd q.1 (by decide))
      have tM9_133_1 : M9 133 1 = M6 133 1 := f8 133 1 (fun q => absurd q.1 (by decide))
      have hF := hF.wrf f8 (by decide) (by decide)
      have hW : WFk M9 := hW.site f8 (by decide)
      exact hret _ 33 _ ⟨hI, hW⟩ ⟨hF, (by omega)⟩ dX12_blames_33
    · refine z_iconst F dX12_blames_17 ?_
      refine z_goto (tgt := 22) F dX12_blames_18 (by decide +kernel) ?_
      refine pf_X12_108 F hI gs_131 rfl bd_131_12 rfl rfl dX12_blames_22 (by omega) (by omega) (fun M11 hI sf10 f10 => ?_)
      have tM11_131_7 : M11 131 7 = M 131 7 := f10 131 7 (fun q => absurd q.2 (by decide))
      have tM11_131_8 : M11 131 8 = M 131 8 := f10 131 8 (fun q => absurd q.2 (by decide))
      have tM11_131_9 : M11 131 9 = M 131 9 := f10 131 9 (fun q => absurd q.2 (by decide))
      have tM11_131_10 : M11 131 10 = M 131 10 := f10 131 10 (fun q => absurd q.2 (by decide))
      have tM11_131_16 : M11 131 16 = M 131 16 := f10 131 16 (fun q => absurd q.2 (by decide))
      have tM11_133_6 : M11 133 6 = M 133 6 := f10 133 6 (fun q => absurd q.1 (by decide))
      have tM11_133_1 : M11 133 1 = M 133 1 := f10 133 1 (fun q => absurd q.1 (by decide))
      have hF := hF.wrf f10 (by decide) (by decide)
      have hW : WFk M11 := hW.site f10 (by decide)
      refine z_aload_n F dX12_blames_25 rfl (q := 0) rfl ?_
      refine z_aload_n F dX12_blames_26 rfl (q := 0) rfl ?_
      refine gf_X12_85 F hI gs_131 rfl bd_131_9 dX12_blames_27 (fun v12 ev12 av12 bv12 => ?_)
      refine pf_X12_111 F hI gs_131 rfl bd_131_13 rfl rfl dX12_blames_30 (by omega) (by omega) (fun M14 hI sf13 f13 => ?_)
      have tM14_131_7 : M14 131 7 = M11 131 7 := f13 131 7 (fun q => absurd q.2 (by decide))
      have tM14_131_8 : M14 131 8 = M11 131 8 := f13 131 8 (fun q => absurd q.2 (by decide))
      have tM14_131_9 : M14 131 9 = M11 131 9 := f13 131 9 (fun q => absurd q.2 (by decide))
      have tM14_131_10 : M14 131 10 = M11 131 10 := f13 131 10 (fun q => absurd q.2 (by decide))
      have tM14_131_12 : M14 131 12 = M11 131 12 := f13 131 12 (fun q => absurd q.2 (by decide))
      have tM14_131_16 : M14 131 16 = M11 131 16 := f13 131 16 (fun q => absurd q.2 (by decide))
      have tM14_133_6 : M14 133 6 = M11 133 6 := f13 133 6 (fun q => absurd q.1 (by decide))
      have tM14_133_1 : M14 133 1 = M11 133 1 := f13 133 1 (fun q => absurd q.1 (by decide))
      have hF := hF.wrf f13 (by decide) (by decide)
      have hW : WFk M14 := hW.site f13 (by decide)
      exact hret _ 33 _ ⟨hI, hW⟩ ⟨hF, (by omega)⟩ dX12_blames_33
  · exact hret _ 7 _ ⟨hI, hW⟩ ⟨hF, (by omega)⟩ dX12_blames_7
set_option maxHeartbeats 4000000 in
set_option maxRecDepth 4000 in
theorem kp_X12_goesIn (l : Launch) (M : Mem) (hJ : Iw M) (hp0 : 0 ≤ M 131 9 ∧ M 131 9 ≤ M 131 8 ∧ M 131 8 ≤ M 131 7 ∧ M 131 7 ≤ 900 ∧ (M 131 10 = 0 ∨ M 131 9 < M 131 8)) (hp1 : 0 ≤ M 131 16 ∧ M 131 16 ≤ 6) : CV l yX12_goesIn cX12_goesIn 1 none 3 (fun ad => [.ref (ad 131)]) M (fun M' => Fr [131] M M' ∧ (M' 131 7 = M 131 7 ∧ M' 131 16 = M 131 16 + 1 ∧ M 131 9 ≤ M' 131 9 ∧ 0 ≤ M' 131 9 ∧ M' 131 9 ≤ M' 131 8 ∧ M' 131 8 ≤ M' 131 7 ∧ M' 131 7 ≤ 900 ∧ (M' 131 10 = 0 ∨ M' 131 9 < M' 131 8) ∧ (M 131 16 = 6 → ¬ M' 131 12 = 0) ∧ (M' 131 12 = 0 → M 131 12 = 0 ∧ M 131 8 ≤ M' 131 9))) := by
  obtain ⟨hI, hW⟩ := hJ
  have hF : Fr [131] M M := Fr.rf
  refine en_v (by decide +kernel) (fun ad => by exact Nat.le_of_ble_eq_true rfl) (fun D cy ad A p e s m args below meth c Q F hret => ?_)
  refine z_eq (ls' := [(0, .ref (ad 131))]) rfl rfl rfl ?_
  refine z_aload_n F dX12_goesIn_0 rfl (q := 0) rfl ?_
  refine gf_X12_141 F hI gs_131 rfl bd_131_16 dX12_goesIn_1 (fun v1 ev1 av1 bv1 => ?_)
  refine z_bipush F dX12_goesIn_4 (by decide +kernel) ?_
  refine z_icmp_ne (tgt := 14) F dX12_goesIn_6 (by decide +kernel) (by omega) (by omega) (fun c2 => ?_) (fun c2 => ?_)
  · refine z_aload_n F dX12_goesIn_14 rfl (q := 0) rfl ?_
    refine z_dup F dX12_goesIn_15 rfl ?_
    refine gf_X12_141 F hI gs_131 rfl bd_131_16 dX12_goesIn_16 (fun v3 ev3 av3 bv3 => ?_)
    have zv3 : v1 = v3 := ev1.trans ev3.symm
    subst zv3
    refine z_iconst F dX12_goesIn_19 ?_
    refine z_iadd F dX12_goesIn_20 ?_
    refine z_wrap (fun v4 rv4 wv4 => ?_)
    refine pf_X12_141 F hI gs_131 rfl bd_131_16 rfl rfl dX12_goesIn_21 (by omega) (by omega) (fun M6 hI sf5 f5 => ?_)
    have tM6_131_7 : M6 131 7 = M 131 7 := f5 131 7 (fun q => absurd q.2 (by decide))
    have tM6_131_8 : M6 131 8 = M 131 8 := f5 131 8 (fun q => absurd q.2 (by decide))
    have tM6_131_9 : M6 131 9 = M 131 9 := f5 131 9 (fun q => absurd q.2 (by decide))
    have tM6_131_10 : M6 131 10 = M 131 10 := f5 131 10 (fun q => absurd q.2 (by decide))
    have tM6_131_12 : M6 131 12 = M 131 12 := f5 131 12 (fun q => absurd q.2 (by decide))
    have tM6_133_6 : M6 133 6 = M 133 6 := f5 133 6 (fun q => absurd q.1 (by decide))
    have tM6_133_1 : M6 133 1 = M 133 1 := f5 133 1 (fun q => absurd q.1 (by decide))
    have hF := hF.wrf f5 (by decide) (by decide)
    have hW : WFk M6 := hW.site f5 (by decide)
    refine z_aload_n F dX12_goesIn_24 rfl (q := 0) rfl ?_
    refine gf_X12_108 F hI gs_131 rfl bd_131_12 dX12_goesIn_25 (fun v7 ev7 av7 bv7 => ?_)
    refine z_if_ne (tgt := 35) F dX12_goesIn_28 (by decide +kernel) (by omega) (fun c8 => ?_) (fun c8 => ?_)
    · exact hret _ 35 _ ⟨hI, hW⟩ ⟨hF, (by omega)⟩ dX12_goesIn_35
    · refine z_aload_n F dX12_goesIn_31 rfl (q := 0) rfl ?_
      refine zv_v (rest := []) F (kp_X12_readsOn l M6 ⟨hI, hW⟩ (by omega)) cs_X12_127 (T := TX12) (N := 44) (ci := 12) rfl gs_131 (by decide) (by decide) rfl rfl rfl (Nat.le_of_ble_eq_true rfl) dX12_goesIn_32 (fun M9 hI p10 => ?_)
      obtain ⟨hI, hW⟩ := hI
      obtain ⟨fp10, xp10⟩ := p10
      have hF := hF.call fp10 (by decide)
      have tM9_133_6 : M9 133 6 = M6 133 6 := fp10.at (by decide)
      have tM9_133_1 : M9 133 1 = M6 133 1 := fp10.at (by decide)
      exact hret _ 35 _ ⟨hI, hW⟩ ⟨hF, (by omega)⟩ dX12_goesIn_35
  · refine z_aload_n F dX12_goesIn_9 rfl (q := 0) rfl ?_
    refine z_iconst F dX12_goesIn_10 ?_
    refine zv_v (rest := []) F (kp_X12_blames l M ⟨hI, hW⟩ 4 (by omega) (by omega)) cs_X12_133 (T := TX12) (N := 44) (ci := 12) rfl gs_131 (by decide) (by decide) rfl rfl rfl (Nat.le_of_ble_eq_true rfl) dX12_goesIn_11 (fun M11 hI p12 => ?_)
    obtain ⟨hI, hW⟩ := hI
    obtain ⟨fp12, xp12⟩ := p12
    have hF := hF.call fp12 (by decide)
    have tM11_133_6 : M11 133 6 = M 133 6 := fp12.at (by decide)
    have tM11_133_1 : M11 133 1 = M 133 1 := fp12.at (by decide)
    refine z_aload_n F dX12_goesIn_14 rfl (q := 0) rfl ?_
    refine z_dup F dX12_goesIn_15 rfl ?_
    refine gf_X12_141 F hI gs_131 rfl bd_131_16 dX12_goesIn_16 (fun v13 ev13 av13 bv13 => ?_)
    refine z_iconst F dX12_goesIn_19 ?_
    refine z_iadd F dX12_goesIn_20 ?_
    refine z_wrap (fun v14 rv14 wv14 => ?_)
    refine pf_X12_141 F hI gs_131 rfl bd_131_16 rfl rfl dX12_goesIn_21 (by omega) (by omega) (fun M16 hI sf15 f15 => ?_)
    have tM16_131_7 : M16 131 7 = M11 131 7 := f15 131 7 (fun q => absurd q.2 (by decide))
    have tM16_131_8 : M16 131 8 = M11 131 8 := f15 131 8 (fun q => absurd q.2 (by decide))
    have tM16_131_9 : M16 131 9 = M11 131 9 := f15 131 9 (fun q => absurd q.2 (by decide))
    have tM16_131_10 : M16 131 10 = M11 131 10 := f15 131 10 (fun q => absurd q.2 (by decide))
    have tM16_131_12 : M16 131 12 = M11 131 12 := f15 131 12 (fun q => absurd q.2 (by decide))
    have tM16_133_6 : M16 133 6 = M11 133 6 := f15 133 6 (fun q => absurd q.1 (by decide))
    have tM16_133_1 : M16 133 1 = M11 133 1 := f15 133 1 (fun q => absurd q.1 (by decide))
    have hF := hF.wrf f15 (by decide) (by decide)
    have hW : WFk M16 := hW.site f15 (by decide)
    refine z_aload_n F dX12_goesIn_24 rfl (q := 0) rfl ?_
    refine gf_X12_108 F hI gs_131 rfl bd_131_12 dX12_goesIn_25 (fun v17 ev17 av17 bv17 => ?_)
    refine z_if_ne (tgt := 35) F dX12_goesIn_28 (by decide +kernel) (by omega) (fun c18 => ?_) (fun c18 => ?_)
    · exact hret _ 35 _ ⟨hI, hW⟩ ⟨hF, (by omega)⟩ dX12_goesIn_35
    · refine z_aload_n F dX12_goesIn_31 rfl (q := 0) rfl ?_
      refine zv_v (rest := []) F (kp_X12_readsOn l M16 ⟨hI, hW⟩ (by omega)) cs_X12_127 (T := TX12) (N := 44) (ci := 12) rfl gs_131 (by decide) (by decide) rfl rfl rfl (Nat.le_of_ble_eq_true rfl) dX12_goesIn_32 (fun M19 hI p20 => ?_)
      obtain ⟨hI, hW⟩ := hI
      obtain ⟨fp20, xp20⟩ := p20
      have hF := hF.call fp20 (by decide)
      have tM19_133_6 : M19 133 6 = M16 133 6 := fp20.at (by decide)
      have tM19_133_1 : M19 133 1 = M16 133 1 := fp20.at (by decide)
      exact hret _ 35 _ ⟨hI, hW⟩ ⟨hF, (by omega)⟩ dX12_goesIn_35
set_option maxHeartbeats 4000000 in
set_option maxRecDepth 4000 in
theorem kp_X12_isWord_131_1075 (l : Launch) (M : Mem) (hJ : Iw M) (hp0 : 0 ≤ M 131 9 ∧ M 131 9 ≤ M 131 8 ∧ M 131 8 ≤ M 131 7 ∧ M 131 7 ≤ 900 ∧ (M 131 10 = 0 ∨ M 131 9 < M 131 8)) : CI l yX12_isWord cX12_isWord 4 (some .boolean) 5 (fun ad => [.ref (ad 131), .ref (ad 1075)]) M (fun z M' => (0 ≤ z ∧ z ≤ 1) ∧ M = M' ∧ (z = 1 → M 131 12 = 0 ∧ M 131 10 = 1)) := by
  obtain ⟨hI, hW⟩ := hJ
  refine en_z (by decide +kernel) (fun ad => by exact Nat.le_of_ble_eq_true rfl) (fun D cy ad A p e s m args below meth c Q F hret => ?_)
  refine z_eq (ls' := [(0, .ref (ad 131)), (1, .ref (ad 1075))]) rfl rfl rfl ?_
  obtain ⟨u1, eu1⟩ : ∃ v : Int, v = M 131 7 := ⟨_, rfl⟩
  have ku1 : 0 ≤ u1 ∧ u1 ≤ 900 := by have := hI.at (show Bd 131 7 = (0, 900) from rfl); omega
  obtain ⟨u2, eu2⟩ : ∃ v : Int, v = M 131 8 := ⟨_, rfl⟩
  have ku2 : 0 ≤ u2 ∧ u2 ≤ 900 := by have := hI.at (show Bd 131 8 = (0, 900) from rfl); omega
  obtain ⟨u3, eu3⟩ : ∃ v : Int, v = M 131 9 := ⟨_, rfl⟩
  have ku3 : 0 ≤ u3 ∧ u3 ≤ 900 := by have := hI.at (show Bd 131 9 = (0, 900) from rfl); omega
  obtain ⟨u4, eu4⟩ : ∃ v : Int, v = M 131 10 := ⟨_, rfl⟩
  have ku4 : (-2147483648) ≤ u4 ∧ u4 ≤ 2147483647 := by have := hI.at (show Bd 131 10 = (-2147483648, 2147483647) from rfl); omega
  obtain ⟨u5, eu5⟩ : ∃ v : Int, v = M 131 12 := ⟨_, rfl⟩
  have ku5 : 0 ≤ u5 ∧ u5 ≤ 4 := by have := hI.at (show Bd 131 12 = (0, 4) from rfl); omega
  obtain ⟨u6, eu6⟩ : ∃ v : Int, v = M 131 16 := ⟨_, rfl⟩
  have ku6 : (-2147483648) ≤ u6 ∧ u6 ≤ 2147483647 := by have := hI.at (show Bd 131 16 = (-2147483648, 2147483647) from rfl); omega
  refine z_aload_n F dX12_isWord_0 rfl (q := 0) rfl ?_
  refine gf_X12_108 F hI gs_131 rfl bd_131_12 dX12_isWord_1 (fun v7 ev7 av7 bv7 => ?_)
  have zv7 : u5 = v7 := eu5.trans ev7.symm
  subst zv7
  refine z_if_ne (tgt := 35) F dX12_isWord_4 (by decide +kernel) (by omega) (fun c8 => ?_) (fun c8 => ?_)
  · refine z_iconst F dX12_isWord_35 ?_
    refine z_istore_n F dX12_isWord_36 rfl (by decide) (ls' := [(2, ii 0), (0, .ref (ad 131)), (1, .ref (ad 1075))]) rfl ?_
    refine z_iconst F dX12_isWord_37 ?_
    refine z_istore_n F dX12_isWord_38 rfl (by decide) (ls' := [(3, ii 0), (2, ii 0), (0, .ref (ad 131)), (1, .ref (ad 1075))]) rfl ?_
    refine z_loc [2, 3, 1, 0] (ls' := [(0, .ref (ad 131)), (1, .ref (ad 1075)), (2, ii 0), (3, ii 0)]) rfl ?_
    suffices key39 : ∀ (n : Nat) (y10 : Int) (y11 : Int), 0 ≤ y10 → y10 ≤ 0 → 0 ≤ y11 → y11 ≤ 0 → (y10 = 1 → M 131 12 = 0 ∧ M 131 10 = 1 ∧ M 131 8 - M 131 9 = 1) → 0 < (n : Int) → Z D cy ad p l e (RMh 5) s m args below meth c A 4 0 0 Q 39 [(0, .ref (ad 131)), (1, .ref (ad 1075)), (2, ii y10), (3, ii y11)] [] M from key39 1 0 0 (by omega) (by omega) (by omega) (by omega) (by omega) (by omega)
    intro n39
    induction n39 with
    | zero => intro y10 y11 ay10 by10 ay11 by11 i39_0 hn39; exfalso; omega
    | succ n39 ih39 =>
      intro y10 y11 ay10 by10 ay11 by11 i39_0 hn39
      refine z_iload_n F dX12_isWord_39 rfl (q := 2) rfl ?_
      refine z_if_eq (tgt := 82) F dX12_isWord_40 (by decide +kernel) (by omega) (fun c12 => ?_) (fun c12 => by exfalso; omega)
      refine z_iload_n F dX12_isWord_82 rfl (q := 2) rfl ?_
      exact hret _ _ 83 _ ⟨by omega, by omega⟩ ⟨hI, hW⟩ ⟨⟨by omega, by omega⟩, rfl, (by omega)⟩ dX12_isWord_83
  · refine z_aload_n F dX12_isWord_7 rfl (q := 0) rfl ?_
    refine gf_X12_88 F hI gs_131 rfl bd_131_10 dX12_isWord_8 (fun v13 ev13 av13 bv13 => ?_)
    have zv13 : u4 = v13 := eu4.trans ev13.symm
    subst zv13
    refine z_iconst F dX12_isWord_11 ?_
    refine z_icmp_ne (tgt := 35) F dX12_isWord_12 (by decide +kernel) (by omega) (by omega) (fun c14 => ?_) (fun c14 => ?_)
    · refine z_iconst F dX12_isWord_35 ?_
      refine z_istore_n F dX12_isWord_36 rfl (by decide) (ls' := [(2, ii 0), (0, .ref (ad 131)), (1, .ref (ad 1075))]) rfl ?_
      refine z_iconst F dX12_isWord_37 ?_
      refine z_istore_n F dX12_isWord_38 rfl (by decide) (ls' := [(3, ii 0), (2, ii 0), (0, .ref (ad 131)), (1, .ref (ad 1075))]) rfl ?_
      refine z_loc [2, 3, 1, 0] (ls' := [(0, .ref (ad 131)), (1, .ref (ad 1075)), (2, ii 0), (3, ii 0)]) rfl ?_
      suffices key39 : ∀ (n : Nat) (y16 : Int) (y17 : Int), 0 ≤ y16 → y16 ≤ 0 → 0 ≤ y17 → y17 ≤ 0 → (y16 = 1 → M 131 12 = 0 ∧ M 131 10 = 1 ∧ M 131 8 - M 131 9 = 1) → 0 < (n : Int) → Z D cy ad p l e (RMh 5) s m args below meth c A 4 0 0 Q 39 [(0, .ref (ad 131)), (1, .ref (ad 1075)), (2, ii y16), (3, ii y17)] [] M from key39 1 0 0 (by omega) (by omega) (by omega) (by omega) (by omega) (by omega)
      intro n39
      induction n39 with
      | zero => intro y16 y17 ay16 by16 ay17 by17 i39_0 hn39; exfalso; omega
      | succ n39 ih39 =>
        intro y16 y17 ay16 by16 ay17 by17 i39_0 hn39
        refine z_iload_n F dX12_isWord_39 rfl (q := 2) rfl ?_
        refine z_if_eq (tgt := 82) F dX12_isWord_40 (by decide +kernel) (by omega) (fun c18 => ?_) (fun c18 => by exfalso; omega)
        refine z_iload_n F dX12_isWord_82 rfl (q := 2) rfl ?_
        exact hret _ _ 83 _ ⟨by omega, by omega⟩ ⟨hI, hW⟩ ⟨⟨by omega, by omega⟩, rfl, (by omega)⟩ dX12_isWord_83
    · refine z_aload_n F dX12_isWord_15 rfl (q := 0) rfl ?_
      refine gf_X12_82 F hI gs_131 rfl bd_131_8 dX12_isWord_16 (fun v19 ev19 av19 bv19 => ?_)
      have zv19 : u2 = v19 := eu2.trans ev19.symm
      subst zv19
      refine z_aload_n F dX12_isWord_19 rfl (q := 0) rfl ?_
      refine gf_X12_85 F hI gs_131 rfl bd_131_9 dX12_isWord_20 (fun v20 ev20 av20 bv20 => ?_)
      have zv20 : u3 = v20 := eu3.trans ev20.symm
      subst zv20
      refine z_isub F dX12_isWord_23 ?_
      refine z_aload_n F dX12_isWord_24 rfl (q := 1) rfl ?_
      refine zvs_i (i := 75) (rest := [ii (u2 - u3)]) F (kS_len l M ⟨hI, hW⟩ 75 (by decide)) cs_X12_114 (by decide) (by decide) (by decide) rfl rfl rfl (Nat.le_of_ble_eq_true rfl) dX12_isWord_25 (fun v21 M9 rv21 hI9 pv21 => ?_)
      obtain ⟨ev21, rfl⟩ := pv21
      obtain rfl : v21 = 1 := ev21.trans (show ((sbyt.getD 75 []).length : Int) = 1 from by decide)
      clear hI9
      refine z_icmp_ne (tgt := 35) F dX12_isWord_28 (by decide +kernel) (by omega) (by omega) (fun c22 => ?_) (fun c22 => ?_)
      · refine z_iconst F dX12_isWord_35 ?_
        refine z_istore_n F dX12_isWord_36 rfl (by decide) (ls' := [(2, ii 0), (0, .ref (ad 131)), (1, .ref (ad 1075))]) rfl ?_
        refine z_iconst F dX12_isWord_37 ?_
        refine z_istore_n F dX12_isWord_38 rfl (by decide) (ls' := [(3, ii 0), (2, ii 0), (0, .ref (ad 131)), (1, .ref (ad 1075))]) rfl ?_
        refine z_loc [2, 3, 1, 0] (ls' := [(0, .ref (ad 131)), (1, .ref (ad 1075)), (2, ii 0), (3, ii 0)]) rfl ?_
        suffices key39 : ∀ (n : Nat) (y24 : Int) (y25 : Int), 0 ≤ y24 → y24 ≤ 0 → 0 ≤ y25 → y25 ≤ 0 → (y24 = 1 → M 131 12 = 0 ∧ M 131 10 = 1 ∧ M 131 8 - M 131 9 = 1) → 0 < (n : Int) → Z D cy ad p l e (RMh 5) s m args below meth c A 4 0 0 Q 39 [(0, .ref (ad 131)), (1, .ref (ad 1075)), (2, ii y24), (3, ii y25)] [] M from key39 1 0 0 (by omega) (by omega) (by omega) (by omega) (by omega) (by omega)
        intro n39
        induction n39 with
        | zero => intro y24 y25 ay24 by24 ay25 by25 i39_0 hn39; exfalso; omega
        | succ n39 ih39 =>
          intro y24 y25 ay24 by24 ay25 by25 i39_0 hn39
          refine z_iload_n F dX12_isWord_39 rfl (q := 2) rfl ?_
          refine z_if_eq (tgt := 82) F dX12_isWord_40 (by decide +kernel) (by omega) (fun c26 => ?_) (fun c26 => by exfalso; omega)
          refine z_iload_n F dX12_isWord_82 rfl (q := 2) rfl ?_
          exact hret _ _ 83 _ ⟨by omega, by omega⟩ ⟨hI, hW⟩ ⟨⟨by omega, by omega⟩, rfl, (by omega)⟩ dX12_isWord_83
      · refine z_iconst F dX12_isWord_31 ?_
        refine z_goto (tgt := 36) F dX12_isWord_32 (by decide +kernel) ?_
        refine z_istore_n F dX12_isWord_36 rfl (by decide) (ls' := [(2, ii 1), (0, .ref (ad 131)), (1, .ref (ad 1075))]) rfl ?_
        refine z_iconst F dX12_isWord_37 ?_
        refine z_istore_n F dX12_isWord_38 rfl (by decide) (ls' := [(3, ii 0), (2, ii 1), (0, .ref (ad 131)), (1, .ref (ad 1075))]) rfl ?_
        refine z_loc [2, 3, 1, 0] (ls' := [(0, .ref (ad 131)), (1, .ref (ad 1075)), (2, ii 1), (3, ii 0)]) rfl ?_
        suffices key39 : ∀ (n : Nat) (y28 : Int) (y29 : Int), 0 ≤ y28 → y28 ≤ 1 → 0 ≤ y29 → y29 ≤ 1 → (y28 = 1 → M 131 12 = 0 ∧ M 131 10 = 1 ∧ M 131 8 - M 131 9 = 1) → 1 - y29 < (n : Int) → Z D cy ad p l e (RMh 5) s m args below meth c A 4 0 0 Q 39 [(0, .ref (ad 131)), (1, .ref (ad 1075)), (2, ii y28), (3, ii y29)] [] M from key39 2 1 0 (by omega) (by omega) (by omega) (by omega) (by omega) (by omega)
        intro n39
        induction n39 with
        | zero => intro y28 y29 ay28 by28 ay29 by29 i39_0 hn39; exfalso; omega
        | succ n39 ih39 =>
          intro y28 y29 ay28 by28 ay29 by29 i39_0 hn39
          refine z_iload_n F dX12_isWord_39 rfl (q := 2) rfl ?_
          refine z_if_eq (tgt := 82) F dX12_isWord_40 (by decide +kernel) (by omega) (fun c30 => ?_) (fun c30 => ?_)
          · refine z_iload_n F dX12_isWord_82 rfl (q := 2) rfl ?_
            exact hret _ _ 83 _ ⟨by omega, by omega⟩ ⟨hI, hW⟩ ⟨⟨by omega, by omega⟩, rfl, (by omega)⟩ dX12_isWord_83
          · refine z_iload_n F dX12_isWord_43 rfl (q := 3) rfl ?_
            refine z_aload_n F dX12_isWord_44 rfl (q := 1) rfl ?_
            refine zvs_i (i := 75) (rest := [ii y29]) F (kS_len l M ⟨hI, hW⟩ 75 (by decide)) cs_X12_114 (by decide) (by decide) (by decide) rfl rfl rfl (Nat.le_of_ble_eq_true rfl) dX12_isWord_45 (fun v31 M9 rv31 hI9 pv31 => ?_)
            obtain ⟨ev31, rfl⟩ := pv31
            obtain rfl : v31 = 1 := ev31.trans (show ((sbyt.getD 75 []).length : Int) = 1 from by decide)
            clear hI9
            refine z_icmp_ge (tgt := 82) F dX12_isWord_48 (by decide +kernel) (by omega) (by omega) (fun c32 => ?_) (fun c32 => ?_)
            · refine z_iload_n F dX12_isWord_82 rfl (q := 2) rfl ?_
              exact hret _ _ 83 _ ⟨by omega, by omega⟩ ⟨hI, hW⟩ ⟨⟨by omega, by omega⟩, rfl, (by omega)⟩ dX12_isWord_83
            · refine z_aload_n F dX12_isWord_51 rfl (q := 0) rfl ?_
              refine rf_X12_23 F gs_131 rfl dX12_isWord_52 ?_
              refine z_aload_n F dX12_isWord_55 rfl (q := 0) rfl ?_
              refine gf_X12_85 F hI gs_131 rfl bd_131_9 dX12_isWord_56 (fun v33 ev33 av33 bv33 => ?_)
              have zv33 : u3 = v33 := eu3.trans ev33.symm
              subst zv33
              refine z_iload_n F dX12_isWord_59 rfl (q := 3) rfl ?_
              refine z_iadd F dX12_isWord_60 ?_
              have k34 : 0 ≤ (u3 + y29) ∧ (u3 + y29) ≤ 899 := by omega
              refine z_iald F hI gs_136 (by omega) (by omega) (by decide) bd_136 dX12_isWord_61 (fun v35 (ev35 : v35 = M 136 _) av35 bv35 => ?_)
              refine z_aload_n F dX12_isWord_62 rfl (q := 1) rfl ?_
              refine z_iload_n F dX12_isWord_63 rfl (q := 3) rfl ?_
              refine zvs_i (i := 75) (rest := [ii v35]) F (kS_chr l M ⟨hI, hW⟩ 75 (by decide) y29 (by omega) (show y29 < ((sbyt.getD 75 []).length : Int) from by rw [show ((sbyt.getD 75 []).length : Int) = 1 from by decide]; omega)) cs_X12_119 (by decide) (by decide) (by decide) rfl rfl rfl (Nat.le_of_ble_eq_true rfl) dX12_isWord_64 (fun v36 M9 rv36 hI9 pv36 => ?_)
              obtain ⟨⟨av36, bv36⟩, rfl⟩ := pv36
              clear hI9
              refine z_icmp_ne (tgt := 74) F dX12_isWord_67 (by decide +kernel) (by omega) (by omega) (fun c37 => ?_) (fun c37 => ?_)
              · refine z_iconst F dX12_isWord_74 ?_
                refine z_istore_n F dX12_isWord_75 rfl (by decide) (ls' := [(2, ii 0), (0, .ref (ad 131)), (1, .ref (ad 1075)), (3, ii y29)]) rfl ?_
                refine z_iincN F dX12_isWord_76 (q := 3) rfl (by decide) (fun v38 ev38 => ?_)
                refine z_eq (ls' := [(3, ii v38), (2, ii 0), (0, .ref (ad 131)), (1, .ref (ad 1075))]) rfl rfl rfl ?_
                refine z_goto (tgt := 39) F dX12_isWord_79 (by decide +kernel) ?_
                refine z_loc [2, 3, 1, 0] (ls' := [(0, .ref (ad 131)), (1, .ref (ad 1075)), (2, ii 0), (3, ii v38)]) rfl ?_
                exact ih39 0 v38 (by omega) (by omega) (by omega) (by omega) (by omega) (by omega)
              · refine z_iconst F dX12_isWord_70 ?_
                refine z_goto (tgt := 75) F dX12_isWord_71 (by decide +kernel) ?_
                refine z_istore_n F dX12_isWord_75 rfl (by decide) (ls' := [(2, ii 1), (0, .ref (ad 131)), (1, .ref (ad 1075)), (3, ii y29)]) rfl ?_
                refine z_iincN F dX12_isWord_76 (q := 3) rfl (by decide) (fun v39 ev39 => ?_)
                refine z_eq (ls' := [(3, ii v39), (2, ii 1), (0, .ref (ad 131)), (1, .ref (ad 1075))]) rfl rfl rfl ?_
                refine z_goto (tgt := 39) F dX12_isWord_79 (by decide +kernel) ?_
                refine z_loc [2, 3, 1, 0] (ls' := [(0, .ref (ad 131)), (1, .ref (ad 1075)), (2, ii 1), (3, ii v39)]) rfl ?_
                exact ih39 1 v39 (by omega) (by omega) (by omega) (by omega) (by omega) (by omega)
set_option maxHeartbeats 4000000 in
set_option maxRecDepth 4000 in
theorem kp_X12_took_131_1075 (l : Launch) (M : Mem) (hJ : Iw M) (hp0 : 0 ≤ M 131 9 ∧ M 131 9 ≤ M 131 8 ∧ M 131 8 ≤ M 131 7 ∧ M 131 7 ≤ 900 ∧ (M 131 10 = 0 ∨ M 131 9 < M 131 8)) : CI l yX12_took cX12_took 3 (some .boolean) 6 (fun ad => [.ref (ad 131), .ref (ad 1075)]) M (fun z M' => (0 ≤ z ∧ z ≤ 1) ∧ Fr [131] M M' ∧ (M' 131 7 = M 131 7 ∧ M' 131 16 = M 131 16 ∧ M 131 9 ≤ M' 131 9 ∧ 0 ≤ M' 131 9 ∧ M' 131 9 ≤ M' 131 8 ∧ M' 131 8 ≤ M' 131 7 ∧ M' 131 7 ≤ 900 ∧ (M' 131 10 = 0 ∨ M' 131 9 < M' 131 8) ∧ M' 131 12 = M 131 12 ∧ (z = 1 → M 131 12 = 0 ∧ M 131 9 < M' 131 9))) := by
  obtain ⟨hI, hW⟩ := hJ
  have hF : Fr [131] M M := Fr.rf
  refine en_z (by decide +kernel) (fun ad => by exact Nat.le_of_ble_eq_true rfl) (fun D cy ad A p e s m args below meth c Q F hret => ?_)
  refine z_eq (ls' := [(0, .ref (ad 131)), (1, .ref (ad 1075))]) rfl rfl rfl ?_
  refine z_aload_n F dX12_took_0 rfl (q := 0) rfl ?_
  refine z_aload_n F dX12_took_1 rfl (q := 1) rfl ?_
  refine zv_i (rest := []) F (kp_X12_isWord_131_1075 l M ⟨hI, hW⟩ (by omega)) cs_X12_123 (T := TX12) (N := 44) (ci := 12) rfl gs_131 (by decide) (by decide) rfl rfl rfl (Nat.le_of_ble_eq_true rfl) dX12_took_2 (fun v1 M2 rv1 hI p3 => ?_)
  obtain ⟨hI, hW⟩ := hI
  obtain ⟨⟨av1, bv1⟩, rfl, xp3⟩ := p3
  refine z_istore_n F dX12_took_5 rfl (by decide) (ls' := [(2, ii v1), (0, .ref (ad 131)), (1, .ref (ad 1075))]) rfl ?_
  refine z_iload_n F dX12_took_6 rfl (q := 0) rfl ?_
  refine z_if_eq (tgt := 14) F dX12_took_7 (by decide +kernel) (by omega) (fun c4 => ?_) (fun c4 => ?_)
  · refine z_iload_n F dX12_took_14 rfl (q := 0) rfl ?_
    exact hret _ _ 15 _ ⟨by omega, by omega⟩ ⟨hI, hW⟩ ⟨⟨by omega, by omega⟩, hF, (by omega)⟩ dX12_took_15
  · refine z_aload_n F dX12_took_10 rfl (q := 1) rfl ?_
    refine zv_v (rest := []) F (kp_X12_readsOn l M ⟨hI, hW⟩ (by omega)) cs_X12_127 (T := TX12) (N := 44) (ci := 12) rfl gs_131 (by decide) (by decide) rfl rfl rfl (Nat.le_of_ble_eq_true rfl) dX12_took_11 (fun M5 hI p6 => ?_)
    obtain ⟨hI, hW⟩ := hI
    obtain ⟨fp6, xp6⟩ := p6
    have hF := hF.call fp6 (by decide)
    have tM5_133_6 : M5 133 6 = M 133 6 := fp6.at (by decide)
    have tM5_133_1 : M5 133 1 = M 133 1 := fp6.at (by decide)
    refine z_iload_n F dX12_took_14 rfl (q := 0) rfl ?_
    exact hret _ _ 15 _ ⟨by omega, by omega⟩ ⟨hI, hW⟩ ⟨⟨by omega, by omega⟩, hF, (by omega)⟩ dX12_took_15
set_option maxHeartbeats 4000000 in
set_option maxRecDepth 4000 in
theorem kp_X12_isWord_131_1076 (l : Launch) (M : Mem) (hJ : Iw M) (hp0 : 0 ≤ M 131 9 ∧ M 131 9 ≤ M 131 8 ∧ M 131 8 ≤ M 131 7 ∧ M 131 7 ≤ 900 ∧ (M 131 10 = 0 ∨ M 131 9 < M 131 8)) : CI l yX12_isWord cX12_isWord 4 (some .boolean) 5 (fun ad => [.ref (ad 131), .ref (ad 1076)]) M (fun z M' => (0 ≤ z ∧ z ≤ 1) ∧ M = M' ∧ (z = 1 → M 131 12 = 0 ∧ M 131 10 = 1)) := by
  obtain ⟨hI, hW⟩ := hJ
  refine en_z (by decide +kernel) (fun ad => by exact Nat.le_of_ble_eq_true rfl) (fun D cy ad A p e s m args below meth c Q F hret => ?_)
  refine z_eq (ls' := [(0, .ref (ad 131)), (1, .ref (ad 1076))]) rfl rfl rfl ?_
  obtain ⟨u1, eu1⟩ : ∃ v : Int, v = M 131 7 := ⟨_, rfl⟩
  have ku1 : 0 ≤ u1 ∧ u1 ≤ 900 := by have := hI.at (show Bd 131 7 = (0, 900) from rfl); omega
  obtain ⟨u2, eu2⟩ : ∃ v : Int, v = M 131 8 := ⟨_, rfl⟩
  have ku2 : 0 ≤ u2 ∧ u2 ≤ 900 := by have := hI.at (show Bd 131 8 = (0, 900) from rfl); omega
  obtain ⟨u3, eu3⟩ : ∃ v : Int, v = M 131 9 := ⟨_, rfl⟩
  have ku3 : 0 ≤ u3 ∧ u3 ≤ 900 := by have := hI.at (show Bd 131 9 = (0, 900) from rfl); omega
  obtain ⟨u4, eu4⟩ : ∃ v : Int, v = M 131 10 := ⟨_, rfl⟩
  have ku4 : (-2147483648) ≤ u4 ∧ u4 ≤ 2147483647 := by have := hI.at (show Bd 131 10 = (-2147483648, 2147483647) from rfl); omega
  obtain ⟨u5, eu5⟩ : ∃ v : Int, v = M 131 12 := ⟨_, rfl⟩
  have ku5 : 0 ≤ u5 ∧ u5 ≤ 4 := by have := hI.at (show Bd 131 12 = (0, 4) from rfl); omega
  obtain ⟨u6, eu6⟩ : ∃ v : Int, v = M 131 16 := ⟨_, rfl⟩
  have ku6 : (-2147483648) ≤ u6 ∧ u6 ≤ 2147483647 := by have := hI.at (show Bd 131 16 = (-2147483648, 2147483647) from rfl); omega
  refine z_aload_n F dX12_isWord_0 rfl (q := 0) rfl ?_
  refine gf_X12_108 F hI gs_131 rfl bd_131_12 dX12_isWord_1 (fun v7 ev7 av7 bv7 => ?_)
  have zv7 : u5 = v7 := eu5.trans ev7.symm
  subst zv7
  refine z_if_ne (tgt := 35) F dX12_isWord_4 (by decide +kernel) (by omega) (fun c8 => ?_) (fun c8 => ?_)
  · refine z_iconst F dX12_isWord_35 ?_
    refine z_istore_n F dX12_isWord_36 rfl (by decide) (ls' := [(2, ii 0), (0, .ref (ad 131)), (1, .ref (ad 1076))]) rfl ?_
    refine z_iconst F dX12_isWord_37 ?_
    refine z_istore_n F dX12_isWord_38 rfl (by decide) (ls' := [(3, ii 0), (2, ii 0), (0, .ref (ad 131)), (1, .ref (ad 1076))]) rfl ?_
    refine z_loc [2, 3, 1, 0] (ls' := [(0, .ref (ad 131)), (1, .ref (ad 1076)), (2, ii 0), (3, ii 0)]) rfl ?_
    suffices key39 : ∀ (n : Nat) (y10 : Int) (y11 : Int), 0 ≤ y10 → y10 ≤ 0 → 0 ≤ y11 → y11 ≤ 0 → (y10 = 1 → M 131 12 = 0 ∧ M 131 10 = 1 ∧ M 131 8 - M 131 9 = 1) → 0 < (n : Int) → Z D cy ad p l e (RMh 5) s m args below meth c A 4 0 0 Q 39 [(0, .ref (ad 131)), (1, .ref (ad 1076)), (2, ii y10), (3, ii y11)] [] M from key39 1 0 0 (by omega) (by omega) (by omega) (by omega) (by omega) (by omega)
    intro n39
    induction n39 with
    | zero => intro y10 y11 ay10 by10 ay11 by11 i39_0 hn39; exfalso; omega
    | succ n39 ih39 =>
      intro y10 y11 ay10 by10 ay11 by11 i39_0 hn39
      refine z_iload_n F dX12_isWord_39 rfl (q := 2) rfl ?_
      refine z_if_eq (tgt := 82) F dX12_isWord_40 (by decide +kernel) (by omega) (fun c12 => ?_) (fun c12 => by exfalso; omega)
      refine z_iload_n F dX12_isWord_82 rfl (q := 2) rfl ?_
      exact hret _ _ 83 _ ⟨by omega, by omega⟩ ⟨hI, hW⟩ ⟨⟨by omega, by omega⟩, rfl, (by omega)⟩ dX12_isWord_83
  · refine z_aload_n F dX12_isWord_7 rfl (q := 0) rfl ?_
    refine gf_X12_88 F hI gs_131 rfl bd_131_10 dX12_isWord_8 (fun v13 ev13 av13 bv13 => ?_)
    have zv13 : u4 = v13 := eu4.trans ev13.symm
    subst zv13
    refine z_iconst F dX12_isWord_11 ?_
    refine z_icmp_ne (tgt := 35) F dX12_isWord_12 (by decide +kernel) (by omega) (by omega) (fun c14 => ?_) (fun c14 => ?_)
    · refine z_iconst F dX12_isWord_35 ?_
      refine z_istore_n F dX12_isWord_36 rfl (by decide) (ls' := [(2, ii 0), (0, .ref (ad 131)), (1, .ref (ad 1076))]) rfl ?_
      refine z_iconst F dX12_isWord_37 ?_
      refine z_istore_n F dX12_isWord_38 rfl (by decide) (ls' := [(3, ii 0), (2, ii 0), (0, .ref (ad 131)), (1, .ref (ad 1076))]) rfl ?_
      refine z_loc [2, 3, 1, 0] (ls' := [(0, .ref (ad 131)), (1, .ref (ad 1076)), (2, ii 0), (3, ii 0)]) rfl ?_
      suffices key39 : ∀ (n : Nat) (y16 : Int) (y17 : Int), 0 ≤ y16 → y16 ≤ 0 → 0 ≤ y17 → y17 ≤ 0 → (y16 = 1 → M 131 12 = 0 ∧ M 131 10 = 1 ∧ M 131 8 - M 131 9 = 1) → 0 < (n : Int) → Z D cy ad p l e (RMh 5) s m args below meth c A 4 0 0 Q 39 [(0, .ref (ad 131)), (1, .ref (ad 1076)), (2, ii y16), (3, ii y17)] [] M from key39 1 0 0 (by omega) (by omega) (by omega) (by omega) (by omega) (by omega)
      intro n39
      induction n39 with
      | zero => intro y16 y17 ay16 by16 ay17 by17 i39_0 hn39; exfalso; omega
      | succ n39 ih39 =>
        intro y16 y17 ay16 by16 ay17 by17 i39_0 hn39
        refine z_iload_n F dX12_isWord_39 rfl (q := 2) rfl ?_
        refine z_if_eq (tgt := 82) F dX12_isWord_40 (by decide +kernel) (by omega) (fun c18 => ?_) (fun c18 => by exfalso; omega)
        refine z_iload_n F dX12_isWord_82 rfl (q := 2) rfl ?_
        exact hret _ _ 83 _ ⟨by omega, by omega⟩ ⟨hI, hW⟩ ⟨⟨by omega, by omega⟩, rfl, (by omega)⟩ dX12_isWord_83
    · refine z_aload_n F dX12_isWord_15 rfl (q := 0) rfl ?_
      refine gf_X12_82 F hI gs_131 rfl bd_131_8 dX12_isWord_16 (fun v19 ev19 av19 bv19 => ?_)
      have zv19 : u2 = v19 := eu2.trans ev19.symm
      subst zv19
      refine z_aload_n F dX12_isWord_19 rfl (q := 0) rfl ?_
      refine gf_X12_85 F hI gs_131 rfl bd_131_9 dX12_isWord_20 (fun v20 ev20 av20 bv20 => ?_)
      have zv20 : u3 = v20 := eu3.trans ev20.symm
      subst zv20
      refine z_isub F dX12_isWord_23 ?_
      refine z_aload_n F dX12_isWord_24 rfl (q := 1) rfl ?_
      refine zvs_i (i := 76) (rest := [ii (u2 - u3)]) F (kS_len l M ⟨hI, hW⟩ 76 (by decide)) cs_X12_114 (by decide) (by decide) (by decide) rfl rfl rfl (Nat.le_of_ble_eq_true rfl) dX12_isWord_25 (fun v21 M9 rv21 hI9 pv21 => ?_)
      obtain ⟨ev21, rfl⟩ := pv21
      obtain rfl : v21 = 1 := ev21.trans (show ((sbyt.getD 76 []).length : Int) = 1 from by decide)
      clear hI9
      refine z_icmp_ne (tgt := 35) F dX12_isWord_28 (by decide +kernel) (by omega) (by omega) (fun c22 => ?_) (fun c22 => ?_)
      · refine z_iconst F dX12_isWord_35 ?_
        refine z_istore_n F dX12_isWord_36 rfl (by decide) (ls' := [(2, ii 0), (0, .ref (ad 131)), (1, .ref (ad 1076))]) rfl ?_
        refine z_iconst F dX12_isWord_37 ?_
        refine z_istore_n F dX12_isWord_38 rfl (by decide) (ls' := [(3, ii 0), (2, ii 0), (0, .ref (ad 131)), (1, .ref (ad 1076))]) rfl ?_
        refine z_loc [2, 3, 1, 0] (ls' := [(0, .ref (ad 131)), (1, .ref (ad 1076)), (2, ii 0), (3, ii 0)]) rfl ?_
        suffices key39 : ∀ (n : Nat) (y24 : Int) (y25 : Int), 0 ≤ y24 → y24 ≤ 0 → 0 ≤ y25 → y25 ≤ 0 → (y24 = 1 → M 131 12 = 0 ∧ M 131 10 = 1 ∧ M 131 8 - M 131 9 = 1) → 0 < (n : Int) → Z D cy ad p l e (RMh 5) s m args below meth c A 4 0 0 Q 39 [(0, .ref (ad 131)), (1, .ref (ad 1076)), (2, ii y24), (3, ii y25)] [] M from key39 1 0 0 (by omega) (by omega) (by omega) (by omega) (by omega) (by omega)
        intro n39
        induction n39 with
        | zero => intro y24 y25 ay24 by24 ay25 by25 i39_0 hn39; exfalso; omega
        | succ n39 ih39 =>
          intro y24 y25 ay24 by24 ay25 by25 i39_0 hn39
          refine z_iload_n F dX12_isWord_39 rfl (q := 2) rfl ?_
          refine z_if_eq (tgt := 82) F dX12_isWord_40 (by decide +kernel) (by omega) (fun c26 => ?_) (fun c26 => by exfalso; omega)
          refine z_iload_n F dX12_isWord_82 rfl (q := 2) rfl ?_
          exact hret _ _ 83 _ ⟨by omega, by omega⟩ ⟨hI, hW⟩ ⟨⟨by omega, by omega⟩, rfl, (by omega)⟩ dX12_isWord_83
      · refine z_iconst F dX12_isWord_31 ?_
        refine z_goto (tgt := 36) F dX12_isWord_32 (by decide +kernel) ?_
        refine z_istore_n F dX12_isWord_36 rfl (by decide) (ls' := [(2, ii 1), (0, .ref (ad 131)), (1, .ref (ad 1076))]) rfl ?_
        refine z_iconst F dX12_isWord_37 ?_
        refine z_istore_n F dX12_isWord_38 rfl (by decide) (ls' := [(3, ii 0), (2, ii 1), (0, .ref (ad 131)), (1, .ref (ad 1076))]) rfl ?_
        refine z_loc [2, 3, 1, 0] (ls' := [(0, .ref (ad 131)), (1, .ref (ad 1076)), (2, ii 1), (3, ii 0)]) rfl ?_
        suffices key39 : ∀ (n : Nat) (y28 : Int) (y29 : Int), 0 ≤ y28 → y28 ≤ 1 → 0 ≤ y29 → y29 ≤ 1 → (y28 = 1 → M 131 12 = 0 ∧ M 131 10 = 1 ∧ M 131 8 - M 131 9 = 1) → 1 - y29 < (n : Int) → Z D cy ad p l e (RMh 5) s m args below meth c A 4 0 0 Q 39 [(0, .ref (ad 131)), (1, .ref (ad 1076)), (2, ii y28), (3, ii y29)] [] M from key39 2 1 0 (by omega) (by omega) (by omega) (by omega) (by omega) (by omega)
        intro n39
        induction n39 with
        | zero => intro y28 y29 ay28 by28 ay29 by29 i39_0 hn39; exfalso; omega
        | succ n39 ih39 =>
          intro y28 y29 ay28 by28 ay29 by29 i39_0 hn39
          refine z_iload_n F dX12_isWord_39 rfl (q := 2) rfl ?_
          refine z_if_eq (tgt := 82) F dX12_isWord_40 (by decide +kernel) (by omega) (fun c30 => ?_) (fun c30 => ?_)
          · refine z_iload_n F dX12_isWord_82 rfl (q := 2) rfl ?_
            exact hret _ _ 83 _ ⟨by omega, by omega⟩ ⟨hI, hW⟩ ⟨⟨by omega, by omega⟩, rfl, (by omega)⟩ dX12_isWord_83
          · refine z_iload_n F dX12_isWord_43 rfl (q := 3) rfl ?_
            refine z_aload_n F dX12_isWord_44 rfl (q := 1) rfl ?_
            refine zvs_i (i := 76) (rest := [ii y29]) F (kS_len l M ⟨hI, hW⟩ 76 (by decide)) cs_X12_114 (by decide) (by decide) (by decide) rfl rfl rfl (Nat.le_of_ble_eq_true rfl) dX12_isWord_45 (fun v31 M9 rv31 hI9 pv31 => ?_)
            obtain ⟨ev31, rfl⟩ := pv31
            obtain rfl : v31 = 1 := ev31.trans (show ((sbyt.getD 76 []).length : Int) = 1 from by decide)
            clear hI9
            refine z_icmp_ge (tgt := 82) F dX12_isWord_48 (by decide +kernel) (by omega) (by omega) (fun c32 => ?_) (fun c32 => ?_)
            · refine z_iload_n F dX12_isWord_82 rfl (q := 2) rfl ?_
              exact hret _ _ 83 _ ⟨by omega, by omega⟩ ⟨hI, hW⟩ ⟨⟨by omega, by omega⟩, rfl, (by omega)⟩ dX12_isWord_83
            · refine z_aload_n F dX12_isWord_51 rfl (q := 0) rfl ?_
              refine rf_X12_23 F gs_131 rfl dX12_isWord_52 ?_
              refine z_aload_n F dX12_isWord_55 rfl (q := 0) rfl ?_
              refine gf_X12_85 F hI gs_131 rfl bd_131_9 dX12_isWord_56 (fun v33 ev33 av33 bv33 => ?_)
              have zv33 : u3 = v33 := eu3.trans ev33.symm
              subst zv33
              refine z_iload_n F dX12_isWord_59 rfl (q := 3) rfl ?_
              refine z_iadd F dX12_isWord_60 ?_
              have k34 : 0 ≤ (u3 + y29) ∧ (u3 + y29) ≤ 899 := by omega
              refine z_iald F hI gs_136 (by omega) (by omega) (by decide) bd_136 dX12_isWord_61 (fun v35 (ev35 : v35 = M 136 _) av35 bv35 => ?_)
              refine z_aload_n F dX12_isWord_62 rfl (q := 1) rfl ?_
              refine z_iload_n F dX12_isWord_63 rfl (q := 3) rfl ?_
              refine zvs_i (i := 76) (rest := [ii v35]) F (kS_chr l M ⟨hI, hW⟩ 76 (by decide) y29 (by omega) (show y29 < ((sbyt.getD 76 []).length : Int) from by rw [show ((sbyt.getD 76 []).length : Int) = 1 from by decide]; omega)) cs_X12_119 (by decide) (by decide) (by decide) rfl rfl rfl (Nat.le_of_ble_eq_true rfl) dX12_isWord_64 (fun v36 M9 rv36 hI9 pv36 => ?_)
              obtain ⟨⟨av36, bv36⟩, rfl⟩ := pv36
              clear hI9
              refine z_icmp_ne (tgt := 74) F dX12_isWord_67 (by decide +kernel) (by omega) (by omega) (fun c37 => ?_) (fun c37 => ?_)
              · refine z_iconst F dX12_isWord_74 ?_
                refine z_istore_n F dX12_isWord_75 rfl (by decide) (ls' := [(2, ii 0), (0, .ref (ad 131)), (1, .ref (ad 1076)), (3, ii y29)]) rfl ?_
                refine z_iincN F dX12_isWord_76 (q := 3) rfl (by decide) (fun v38 ev38 => ?_)
                refine z_eq (ls' := [(3, ii v38), (2, ii 0), (0, .ref (ad 131)), (1, .ref (ad 1076))]) rfl rfl rfl ?_
                refine z_goto (tgt := 39) F dX12_isWord_79 (by decide +kernel) ?_
                refine z_loc [2, 3, 1, 0] (ls' := [(0, .ref (ad 131)), (1, .ref (ad 1076)), (2, ii 0), (3, ii v38)]) rfl ?_
                exact ih39 0 v38 (by omega) (by omega) (by omega) (by omega) (by omega) (by omega)
              · refine z_iconst F dX12_isWord_70 ?_
                refine z_goto (tgt := 75) F dX12_isWord_71 (by decide +kernel) ?_
                refine z_istore_n F dX12_isWord_75 rfl (by decide) (ls' := [(2, ii 1), (0, .ref (ad 131)), (1, .ref (ad 1076)), (3, ii y29)]) rfl ?_
                refine z_iincN F dX12_isWord_76 (q := 3) rfl (by decide) (fun v39 ev39 => ?_)
                refine z_eq (ls' := [(3, ii v39), (2, ii 1), (0, .ref (ad 131)), (1, .ref (ad 1076))]) rfl rfl rfl ?_
                refine z_goto (tgt := 39) F dX12_isWord_79 (by decide +kernel) ?_
                refine z_loc [2, 3, 1, 0] (ls' := [(0, .ref (ad 131)), (1, .ref (ad 1076)), (2, ii 1), (3, ii v39)]) rfl ?_
                exact ih39 1 v39 (by omega) (by omega) (by omega) (by omega) (by omega) (by omega)
set_option maxHeartbeats 4000000 in
set_option maxRecDepth 4000 in
theorem kp_X12_took_131_1076 (l : Launch) (M : Mem) (hJ : Iw M) (hp0 : 0 ≤ M 131 9 ∧ M 131 9 ≤ M 131 8 ∧ M 131 8 ≤ M 131 7 ∧ M 131 7 ≤ 900 ∧ (M 131 10 = 0 ∨ M 131 9 < M 131 8)) : CI l yX12_took cX12_took 3 (some .boolean) 6 (fun ad => [.ref (ad 131), .ref (ad 1076)]) M (fun z M' => (0 ≤ z ∧ z ≤ 1) ∧ Fr [131] M M' ∧ (M' 131 7 = M 131 7 ∧ M' 131 16 = M 131 16 ∧ M 131 9 ≤ M' 131 9 ∧ 0 ≤ M' 131 9 ∧ M' 131 9 ≤ M' 131 8 ∧ M' 131 8 ≤ M' 131 7 ∧ M' 131 7 ≤ 900 ∧ (M' 131 10 = 0 ∨ M' 131 9 < M' 131 8) ∧ M' 131 12 = M 131 12 ∧ (z = 1 → M 131 12 = 0 ∧ M 131 9 < M' 131 9))) := by
  obtain ⟨hI, hW⟩ := hJ
  have hF : Fr [131] M M := Fr.rf
  refine en_z (by decide +kernel) (fun ad => by exact Nat.le_of_ble_eq_true rfl) (fun D cy ad A p e s m args below meth c Q F hret => ?_)
  refine z_eq (ls' := [(0, .ref (ad 131)), (1, .ref (ad 1076))]) rfl rfl rfl ?_
  refine z_aload_n F dX12_took_0 rfl (q := 0) rfl ?_
  refine z_aload_n F dX12_took_1 rfl (q := 1) rfl ?_
  refine zv_i (rest := []) F (kp_X12_isWord_131_1076 l M ⟨hI, hW⟩ (by omega)) cs_X12_123 (T := TX12) (N := 44) (ci := 12) rfl gs_131 (by decide) (by decide) rfl rfl rfl (Nat.le_of_ble_eq_true rfl) dX12_took_2 (fun v1 M2 rv1 hI p3 => ?_)
  obtain ⟨hI, hW⟩ := hI
  obtain ⟨⟨av1, bv1⟩, rfl, xp3⟩ := p3
  refine z_istore_n F dX12_took_5 rfl (by decide) (ls' := [(2, ii v1), (0, .ref (ad 131)), (1, .ref (ad 1076))]) rfl ?_
  refine z_iload_n F dX12_took_6 rfl (q := 0) rfl ?_
  refine z_if_eq (tgt := 14) F dX12_took_7 (by decide +kernel) (by omega) (fun c4 => ?_) (fun c4 => ?_)
  · refine z_iload_n F dX12_took_14 rfl (q := 0) rfl ?_
    exact hret _ _ 15 _ ⟨by omega, by omega⟩ ⟨hI, hW⟩ ⟨⟨by omega, by omega⟩, hF, (by omega)⟩ dX12_took_15
  · refine z_aload_n F dX12_took_10 rfl (q := 1) rfl ?_
    refine zv_v (rest := []) F (kp_X12_readsOn l M ⟨hI, hW⟩ (by omega)) cs_X12_127 (T := TX12) (N := 44) (ci := 12) rfl gs_131 (by decide) (by decide) rfl rfl rfl (Nat.le_of_ble_eq_true rfl) dX12_took_11 (fun M5 hI p6 => ?_)
    obtain ⟨hI, hW⟩ := hI
    obtain ⟨fp6, xp6⟩ := p6
    have hF := hF.call fp6 (by decide)
    have tM5_133_6 : M5 133 6 = M 133 6 := fp6.at (by decide)
    have tM5_133_1 : M5 133 1 = M 133 1 := fp6.at (by decide)
    refine z_iload_n F dX12_took_14 rfl (q := 0) rfl ?_
    exact hret _ _ 15 _ ⟨by omega, by omega⟩ ⟨hI, hW⟩ ⟨⟨by omega, by omega⟩, hF, (by omega)⟩ dX12_took_15
set_option maxHeartbeats 4000000 in
set_option maxRecDepth 4000 in
theorem kp_X12_isWord_131_1077 (l : Launch) (M : Mem) (hJ : Iw M) (hp0 : 0 ≤ M 131 9 ∧ M 131 9 ≤ M 131 8 ∧ M 131 8 ≤ M 131 7 ∧ M 131 7 ≤ 900 ∧ (M 131 10 = 0 ∨ M 131 9 < M 131 8)) : CI l yX12_isWord cX12_isWord 4 (some .boolean) 5 (fun ad => [.ref (ad 131), .ref (ad 1077)]) M (fun z M' => (0 ≤ z ∧ z ≤ 1) ∧ M = M' ∧ (z = 1 → M 131 12 = 0 ∧ M 131 10 = 1)) := by
  obtain ⟨hI, hW⟩ := hJ
  refine en_z (by decide +kernel) (fun ad => by exact Nat.le_of_ble_eq_true rfl) (fun D cy ad A p e s m args below meth c Q F hret => ?_)
  refine z_eq (ls' := [(0, .ref (ad 131)), (1, .ref (ad 1077))]) rfl rfl rfl ?_
  obtain ⟨u1, eu1⟩ : ∃ v : Int, v = M 131 7 := ⟨_, rfl⟩
  have ku1 : 0 ≤ u1 ∧ u1 ≤ 900 := by have := hI.at (show Bd 131 7 = (0, 900) from rfl); omega
  obtain ⟨u2, eu2⟩ : ∃ v : Int, v = M 131 8 := ⟨_, rfl⟩
  have ku2 : 0 ≤ u2 ∧ u2 ≤ 900 := by have := hI.at (show Bd 131 8 = (0, 900) from rfl); omega
  obtain ⟨u3, eu3⟩ : ∃ v : Int, v = M 131 9 := ⟨_, rfl⟩
  have ku3 : 0 ≤ u3 ∧ u3 ≤ 900 := by have := hI.at (show Bd 131 9 = (0, 900) from rfl); omega
  obtain ⟨u4, eu4⟩ : ∃ v : Int, v = M 131 10 := ⟨_, rfl⟩
  have ku4 : (-2147483648) ≤ u4 ∧ u4 ≤ 2147483647 := by have := hI.at (show Bd 131 10 = (-2147483648, 2147483647) from rfl); omega
  obtain ⟨u5, eu5⟩ : ∃ v : Int, v = M 131 12 := ⟨_, rfl⟩
  have ku5 : 0 ≤ u5 ∧ u5 ≤ 4 := by have := hI.at (show Bd 131 12 = (0, 4) from rfl); omega
  obtain ⟨u6, eu6⟩ : ∃ v : Int, v = M 131 16 := ⟨_, rfl⟩
  have ku6 : (-2147483648) ≤ u6 ∧ u6 ≤ 2147483647 := by have := hI.at (show Bd 131 16 = (-2147483648, 2147483647) from rfl); omega
  refine z_aload_n F dX12_isWord_0 rfl (q := 0) rfl ?_
  refine gf_X12_108 F hI gs_131 rfl bd_131_12 dX12_isWord_1 (fun v7 ev7 av7 bv7 => ?_)
  have zv7 : u5 = v7 := eu5.trans ev7.symm
  subst zv7
  refine z_if_ne (tgt := 35) F dX12_isWord_4 (by decide +kernel) (by omega) (fun c8 => ?_) (fun c8 => ?_)
  · refine z_iconst F dX12_isWord_35 ?_
    refine z_istore_n F dX12_isWord_36 rfl (by decide) (ls' := [(2, ii 0), (0, .ref (ad 131)), (1, .ref (ad 1077))]) rfl ?_
    refine z_iconst F dX12_isWord_37 ?_
    refine z_istore_n F dX12_isWord_38 rfl (by decide) (ls' := [(3, ii 0), (2, ii 0), (0, .ref (ad 131)), (1, .ref (ad 1077))]) rfl ?_
    refine z_loc [2, 3, 1, 0] (ls' := [(0, .ref (ad 131)), (1, .ref (ad 1077)), (2, ii 0), (3, ii 0)]) rfl ?_
    suffices key39 : ∀ (n : Nat) (y10 : Int) (y11 : Int), 0 ≤ y10 → y10 ≤ 0 → 0 ≤ y11 → y11 ≤ 0 → (y10 = 1 → M 131 12 = 0 ∧ M 131 10 = 1 ∧ M 131 8 - M 131 9 = 4) → 0 < (n : Int) → Z D cy ad p l e (RMh 5) s m args below meth c A 4 0 0 Q 39 [(0, .ref (ad 131)), (1, .ref (ad 1077)), (2, ii y10), (3, ii y11)] [] M from key39 1 0 0 (by omega) (by omega) (by omega) (by omega) (by omega) (by omega)
    intro n39
    induction n39 with
    | zero => intro y10 y11 ay10 by10 ay11 by11 i39_0 hn39; exfalso; omega
    | succ n39 ih39 =>
      intro y10 y11 ay10 by10 ay11 by11 i39_0 hn39
      refine z_iload_n F dX12_isWord_39 rfl (q := 2) rfl ?_
      refine z_if_eq (tgt := 82) F dX12_isWord_40 (by decide +kernel) (by omega) (fun c12 => ?_) (fun c12 => by exfalso; omega)
      refine z_iload_n F dX12_isWord_82 rfl (q := 2) rfl ?_
      exact hret _ _ 83 _ ⟨by omega, by omega⟩ ⟨hI, hW⟩ ⟨⟨by omega, by omega⟩, rfl, (by omega)⟩ dX12_isWord_83
  · refine z_aload_n F dX12_isWord_7 rfl (q := 0) rfl ?_
    refine gf_X12_88 F hI gs_131 rfl bd_131_10 dX12_isWord_8 (fun v13 ev13 av13 bv13 => ?_)
    have zv13 : u4 = v13 := eu4.trans ev13.symm
    subst zv13
    refine z_iconst F dX12_isWord_11 ?_
    refine z_icmp_ne (tgt := 35) F dX12_isWord_12 (by decide +kernel) (by omega) (by omega) (fun c14 => ?_) (fun c14 => ?_)
    · refine z_iconst F dX12_isWord_35 ?_
      refine z_istore_n F dX12_isWord_36 rfl (by decide) (ls' := [(2, ii 0), (0, .ref (ad 131)), (1, .ref (ad 1077))]) rfl ?_
      refine z_iconst F dX12_isWord_37 ?_
      refine z_istore_n F dX12_isWord_38 rfl (by decide) (ls' := [(3, ii 0), (2, ii 0), (0, .ref (ad 131)), (1, .ref (ad 1077))]) rfl ?_
      refine z_loc [2, 3, 1, 0] (ls' := [(0, .ref (ad 131)), (1, .ref (ad 1077)), (2, ii 0), (3, ii 0)]) rfl ?_
      suffices key39 : ∀ (n : Nat) (y16 : Int) (y17 : Int), 0 ≤ y16 → y16 ≤ 0 → 0 ≤ y17 → y17 ≤ 0 → (y16 = 1 → M 131 12 = 0 ∧ M 131 10 = 1 ∧ M 131 8 - M 131 9 = 4) → 0 < (n : Int) → Z D cy ad p l e (RMh 5) s m args below meth c A 4 0 0 Q 39 [(0, .ref (ad 131)), (1, .ref (ad 1077)), (2, ii y16), (3, ii y17)] [] M from key39 1 0 0 (by omega) (by omega) (by omega) (by omega) (by omega) (by omega)
      intro n39
      induction n39 with
      | zero => intro y16 y17 ay16 by16 ay17 by17 i39_0 hn39; exfalso; omega
      | succ n39 ih39 =>
        intro y16 y17 ay16 by16 ay17 by17 i39_0 hn39
        refine z_iload_n F dX12_isWord_39 rfl (q := 2) rfl ?_
        refine z_if_eq (tgt := 82) F dX12_isWord_40 (by decide +kernel) (by omega) (fun c18 => ?_) (fun c18 => by exfalso; omega)
        refine z_iload_n F dX12_isWord_82 rfl (q := 2) rfl ?_
        exact hret _ _ 83 _ ⟨by omega, by omega⟩ ⟨hI, hW⟩ ⟨⟨by omega, by omega⟩, rfl, (by omega)⟩ dX12_isWord_83
    · refine z_aload_n F dX12_isWord_15 rfl (q := 0) rfl ?_
      refine gf_X12_82 F hI gs_131 rfl bd_131_8 dX12_isWord_16 (fun v19 ev19 av19 bv19 => ?_)
      have zv19 : u2 = v19 := eu2.trans ev19.symm
      subst zv19
      refine z_aload_n F dX12_isWord_19 rfl (q := 0) rfl ?_
      refine gf_X12_85 F hI gs_131 rfl bd_131_9 dX12_isWord_20 (fun v20 ev20 av20 bv20 => ?_)
      have zv20 : u3 = v20 := eu3.trans ev20.symm
      subst zv20
      refine z_isub F dX12_isWord_23 ?_
      refine z_aload_n F dX12_isWord_24 rfl (q := 1) rfl ?_
      refine zvs_i (i := 77) (rest := [ii (u2 - u3)]) F (kS_len l M ⟨hI, hW⟩ 77 (by decide)) cs_X12_114 (by decide) (by decide) (by decide) rfl rfl rfl (Nat.le_of_ble_eq_true rfl) dX12_isWord_25 (fun v21 M9 rv21 hI9 pv21 => ?_)
      obtain ⟨ev21, rfl⟩ := pv21
      obtain rfl : v21 = 4 := ev21.trans (show ((sbyt.getD 77 []).length : Int) = 4 from by decide)
      clear hI9
      refine z_icmp_ne (tgt := 35) F dX12_isWord_28 (by decide +kernel) (by omega) (by omega) (fun c22 => ?_) (fun c22 => ?_)
      · refine z_iconst F dX12_isWord_35 ?_
        refine z_istore_n F dX12_isWord_36 rfl (by decide) (ls' := [(2, ii 0), (0, .ref (ad 131)), (1, .ref (ad 1077))]) rfl ?_
        refine z_iconst F dX12_isWord_37 ?_
        refine z_istore_n F dX12_isWord_38 rfl (by decide) (ls' := [(3, ii 0), (2, ii 0), (0, .ref (ad 131)), (1, .ref (ad 1077))]) rfl ?_
        refine z_loc [2, 3, 1, 0] (ls' := [(0, .ref (ad 131)), (1, .ref (ad 1077)), (2, ii 0), (3, ii 0)]) rfl ?_
        suffices key39 : ∀ (n : Nat) (y24 : Int) (y25 : Int), 0 ≤ y24 → y24 ≤ 0 → 0 ≤ y25 → y25 ≤ 0 → (y24 = 1 → M 131 12 = 0 ∧ M 131 10 = 1 ∧ M 131 8 - M 131 9 = 4) → 0 < (n : Int) → Z D cy ad p l e (RMh 5) s m args below meth c A 4 0 0 Q 39 [(0, .ref (ad 131)), (1, .ref (ad 1077)), (2, ii y24), (3, ii y25)] [] M from key39 1 0 0 (by omega) (by omega) (by omega) (by omega) (by omega) (by omega)
        intro n39
        induction n39 with
        | zero => intro y24 y25 ay24 by24 ay25 by25 i39_0 hn39; exfalso; omega
        | succ n39 ih39 =>
          intro y24 y25 ay24 by24 ay25 by25 i39_0 hn39
          refine z_iload_n F dX12_isWord_39 rfl (q := 2) rfl ?_
          refine z_if_eq (tgt := 82) F dX12_isWord_40 (by decide +kernel) (by omega) (fun c26 => ?_) (fun c26 => by exfalso; omega)
          refine z_iload_n F dX12_isWord_82 rfl (q := 2) rfl ?_
          exact hret _ _ 83 _ ⟨by omega, by omega⟩ ⟨hI, hW⟩ ⟨⟨by omega, by omega⟩, rfl, (by omega)⟩ dX12_isWord_83
      · refine z_iconst F dX12_isWord_31 ?_
        refine z_goto (tgt := 36) F dX12_isWord_32 (by decide +kernel) ?_
        refine z_istore_n F dX12_isWord_36 rfl (by decide) (ls' := [(2, ii 1), (0, .ref (ad 131)), (1, .ref (ad 1077))]) rfl ?_
        refine z_iconst F dX12_isWord_37 ?_
        refine z_istore_n F dX12_isWord_38 rfl (by decide) (ls' := [(3, ii 0), (2, ii 1), (0, .ref (ad 131)), (1, .ref (ad 1077))]) rfl ?_
        refine z_loc [2, 3, 1, 0] (ls' := [(0, .ref (ad 131)), (1, .ref (ad 1077)), (2, ii 1), (3, ii 0)]) rfl ?_
        suffices key39 : ∀ (n : Nat) (y28 : Int) (y29 : Int), 0 ≤ y28 → y28 ≤ 1 → 0 ≤ y29 → y29 ≤ 4 → (y28 = 1 → M 131 12 = 0 ∧ M 131 10 = 1 ∧ M 131 8 - M 131 9 = 4) → 4 - y29 < (n : Int) → Z D cy ad p l e (RMh 5) s m args below meth c A 4 0 0 Q 39 [(0, .ref (ad 131)), (1, .ref (ad 1077)), (2, ii y28), (3, ii y29)] [] M from key39 5 1 0 (by omega) (by omega) (by omega) (by omega) (by omega) (by omega)
        intro n39
        induction n39 with
        | zero => intro y28 y29 ay28 by28 ay29 by29 i39_0 hn39; exfalso; omega
        | succ n39 ih39 =>
          intro y28 y29 ay28 by28 ay29 by29 i39_0 hn39
          refine z_iload_n F dX12_isWord_39 rfl (q := 2) rfl ?_
          refine z_if_eq (tgt := 82) F dX12_isWord_40 (by decide +kernel) (by omega) (fun c30 => ?_) (fun c30 => ?_)
          · refine z_iload_n F dX12_isWord_82 rfl (q := 2) rfl ?_
            exact hret _ _ 83 _ ⟨by omega, by omega⟩ ⟨hI, hW⟩ ⟨⟨by omega, by omega⟩, rfl, (by omega)⟩ dX12_isWord_83
          · refine z_iload_n F dX12_isWord_43 rfl (q := 3) rfl ?_
            refine z_aload_n F dX12_isWord_44 rfl (q := 1) rfl ?_
            refine zvs_i (i := 77) (rest := [ii y29]) F (kS_len l M ⟨hI, hW⟩ 77 (by decide)) cs_X12_114 (by decide) (by decide) (by decide) rfl rfl rfl (Nat.le_of_ble_eq_true rfl) dX12_isWord_45 (fun v31 M9 rv31 hI9 pv31 => ?_)
            obtain ⟨ev31, rfl⟩ := pv31
            obtain rfl : v31 = 4 := ev31.trans (show ((sbyt.getD 77 []).length : Int) = 4 from by decide)
            clear hI9
            refine z_icmp_ge (tgt := 82) F dX12_isWord_48 (by decide +kernel) (by omega) (by omega) (fun c32 => ?_) (fun c32 => ?_)
            · refine z_iload_n F dX12_isWord_82 rfl (q := 2) rfl ?_
              exact hret _ _ 83 _ ⟨by omega, by omega⟩ ⟨hI, hW⟩ ⟨⟨by omega, by omega⟩, rfl, (by omega)⟩ dX12_isWord_83
            · refine z_aload_n F dX12_isWord_51 rfl (q := 0) rfl ?_
              refine rf_X12_23 F gs_131 rfl dX12_isWord_52 ?_
              refine z_aload_n F dX12_isWord_55 rfl (q := 0) rfl ?_
              refine gf_X12_85 F hI gs_131 rfl bd_131_9 dX12_isWord_56 (fun v33 ev33 av33 bv33 => ?_)
              have zv33 : u3 = v33 := eu3.trans ev33.symm
              subst zv33
              refine z_iload_n F dX12_isWord_59 rfl (q := 3) rfl ?_
              refine z_iadd F dX12_isWord_60 ?_
              have k34 : 0 ≤ (u3 + y29) ∧ (u3 + y29) ≤ 899 := by omega
              refine z_iald F hI gs_136 (by omega) (by omega) (by decide) bd_136 dX12_isWord_61 (fun v35 (ev35 : v35 = M 136 _) av35 bv35 => ?_)
              refine z_aload_n F dX12_isWord_62 rfl (q := 1) rfl ?_
              refine z_iload_n F dX12_isWord_63 rfl (q := 3) rfl ?_
              refine zvs_i (i := 77) (rest := [ii v35]) F (kS_chr l M ⟨hI, hW⟩ 77 (by decide) y29 (by omega) (show y29 < ((sbyt.getD 77 []).length : Int) from by rw [show ((sbyt.getD 77 []).length : Int) = 4 from by decide]; omega)) cs_X12_119 (by decide) (by decide) (by decide) rfl rfl rfl (Nat.le_of_ble_eq_true rfl) dX12_isWord_64 (fun v36 M9 rv36 hI9 pv36 => ?_)
              obtain ⟨⟨av36, bv36⟩, rfl⟩ := pv36
              clear hI9
              refine z_icmp_ne (tgt := 74) F dX12_isWord_67 (by decide +kernel) (by omega) (by omega) (fun c37 => ?_) (fun c37 => ?_)
              · refine z_iconst F dX12_isWord_74 ?_
                refine z_istore_n F dX12_isWord_75 rfl (by decide) (ls' := [(2, ii 0), (0, .ref (ad 131)), (1, .ref (ad 1077)), (3, ii y29)]) rfl ?_
                refine z_iincN F dX12_isWord_76 (q := 3) rfl (by decide) (fun v38 ev38 => ?_)
                refine z_eq (ls' := [(3, ii v38), (2, ii 0), (0, .ref (ad 131)), (1, .ref (ad 1077))]) rfl rfl rfl ?_
                refine z_goto (tgt := 39) F dX12_isWord_79 (by decide +kernel) ?_
                refine z_loc [2, 3, 1, 0] (ls' := [(0, .ref (ad 131)), (1, .ref (ad 1077)), (2, ii 0), (3, ii v38)]) rfl ?_
                exact ih39 0 v38 (by omega) (by omega) (by omega) (by omega) (by omega) (by omega)
              · refine z_iconst F dX12_isWord_70 ?_
                refine z_goto (tgt := 75) F dX12_isWord_71 (by decide +kernel) ?_
                refine z_istore_n F dX12_isWord_75 rfl (by decide) (ls' := [(2, ii 1), (0, .ref (ad 131)), (1, .ref (ad 1077)), (3, ii y29)]) rfl ?_
                refine z_iincN F dX12_isWord_76 (q := 3) rfl (by decide) (fun v39 ev39 => ?_)
                refine z_eq (ls' := [(3, ii v39), (2, ii 1), (0, .ref (ad 131)), (1, .ref (ad 1077))]) rfl rfl rfl ?_
                refine z_goto (tgt := 39) F dX12_isWord_79 (by decide +kernel) ?_
                refine z_loc [2, 3, 1, 0] (ls' := [(0, .ref (ad 131)), (1, .ref (ad 1077)), (2, ii 1), (3, ii v39)]) rfl ?_
                exact ih39 1 v39 (by omega) (by omega) (by omega) (by omega) (by omega) (by omega)
set_option maxHeartbeats 4000000 in
set_option maxRecDepth 4000 in
theorem kp_X12_took_131_1077 (l : Launch) (M : Mem) (hJ : Iw M) (hp0 : 0 ≤ M 131 9 ∧ M 131 9 ≤ M 131 8 ∧ M 131 8 ≤ M 131 7 ∧ M 131 7 ≤ 900 ∧ (M 131 10 = 0 ∨ M 131 9 < M 131 8)) : CI l yX12_took cX12_took 3 (some .boolean) 6 (fun ad => [.ref (ad 131), .ref (ad 1077)]) M (fun z M' => (0 ≤ z ∧ z ≤ 1) ∧ Fr [131] M M' ∧ (M' 131 7 = M 131 7 ∧ M' 131 16 = M 131 16 ∧ M 131 9 ≤ M' 131 9 ∧ 0 ≤ M' 131 9 ∧ M' 131 9 ≤ M' 131 8 ∧ M' 131 8 ≤ M' 131 7 ∧ M' 131 7 ≤ 900 ∧ (M' 131 10 = 0 ∨ M' 131 9 < M' 131 8) ∧ M' 131 12 = M 131 12 ∧ (z = 1 → M 131 12 = 0 ∧ M 131 9 < M' 131 9))) := by
  obtain ⟨hI, hW⟩ := hJ
  have hF : Fr [131] M M := Fr.rf
  refine en_z (by decide +kernel) (fun ad => by exact Nat.le_of_ble_eq_true rfl) (fun D cy ad A p e s m args below meth c Q F hret => ?_)
  refine z_eq (ls' := [(0, .ref (ad 131)), (1, .ref (ad 1077))]) rfl rfl rfl ?_
  refine z_aload_n F dX12_took_0 rfl (q := 0) rfl ?_
  refine z_aload_n F dX12_took_1 rfl (q := 1) rfl ?_
  refine zv_i (rest := []) F (kp_X12_isWord_131_1077 l M ⟨hI, hW⟩ (by omega)) cs_X12_123 (T := TX12) (N := 44) (ci := 12) rfl gs_131 (by decide) (by decide) rfl rfl rfl (Nat.le_of_ble_eq_true rfl) dX12_took_2 (fun v1 M2 rv1 hI p3 => ?_)
  obtain ⟨hI, hW⟩ := hI
  obtain ⟨⟨av1, bv1⟩, rfl, xp3⟩ := p3
  refine z_istore_n F dX12_took_5 rfl (by decide) (ls' := [(2, ii v1), (0, .ref (ad 131)), (1, .ref (ad 1077))]) rfl ?_
  refine z_iload_n F dX12_took_6 rfl (q := 0) rfl ?_
  refine z_if_eq (tgt := 14) F dX12_took_7 (by decide +kernel) (by omega) (fun c4 => ?_) (fun c4 => ?_)
  · refine z_iload_n F dX12_took_14 rfl (q := 0) rfl ?_
    exact hret _ _ 15 _ ⟨by omega, by omega⟩ ⟨hI, hW⟩ ⟨⟨by omega, by omega⟩, hF, (by omega)⟩ dX12_took_15
  · refine z_aload_n F dX12_took_10 rfl (q := 1) rfl ?_
    refine zv_v (rest := []) F (kp_X12_readsOn l M ⟨hI, hW⟩ (by omega)) cs_X12_127 (T := TX12) (N := 44) (ci := 12) rfl gs_131 (by decide) (by decide) rfl rfl rfl (Nat.le_of_ble_eq_true rfl) dX12_took_11 (fun M5 hI p6 => ?_)
    obtain ⟨hI, hW⟩ := hI
    obtain ⟨fp6, xp6⟩ := p6
    have hF := hF.call fp6 (by decide)
    have tM5_133_6 : M5 133 6 = M 133 6 := fp6.at (by decide)
    have tM5_133_1 : M5 133 1 = M 133 1 := fp6.at (by decide)
    refine z_iload_n F dX12_took_14 rfl (q := 0) rfl ?_
    exact hret _ _ 15 _ ⟨by omega, by omega⟩ ⟨hI, hW⟩ ⟨⟨by omega, by omega⟩, hF, (by omega)⟩ dX12_took_15
