theorem dX12_readLine_0 : decode cX12_readLine 0 = .ok (.aload_n 0, 1) := by decide +kernel
theorem dX12_readLine_1 : decode cX12_readLine 1 = .ok (.ldc 239, 2) := by decide +kernel
theorem dX12_readLine_10 : decode cX12_readLine 10 = .ok (.invokevirtual 241, 3) := by decide +kernel
theorem dX12_readLine_13 : decode cX12_readLine 13 = .ok (.goto 81, 3) := by decide +kernel
theorem dX12_readLine_16 : decode cX12_readLine 16 = .ok (.aload_n 0, 1) := by decide +kernel
theorem dX12_readLine_17 : decode cX12_readLine 17 = .ok (.ldc 225, 2) := by decide +kernel
theorem dX12_readLine_19 : decode cX12_readLine 19 = .ok (.invokevirtual 123, 3) := by decide +kernel
theorem dX12_readLine_22 : decode cX12_readLine 22 = .ok (.ifCond .eq 10, 3) := by decide +kernel
theorem dX12_readLine_25 : decode cX12_readLine 25 = .ok (.aload_n 0, 1) := by decide +kernel
theorem dX12_readLine_26 : decode cX12_readLine 26 = .ok (.invokevirtual 244, 3) := by decide +kernel
theorem dX12_readLine_29 : decode cX12_readLine 29 = .ok (.goto 65, 3) := by decide +kernel
theorem dX12_readLine_3 : decode cX12_readLine 3 = .ok (.invokevirtual 123, 3) := by decide +kernel
theorem dX12_readLine_32 : decode cX12_readLine 32 = .ok (.aload_n 0, 1) := by decide +kernel
theorem dX12_readLine_33 : decode cX12_readLine 33 = .ok (.ldc 247, 2) := by decide +kernel
theorem dX12_readLine_35 : decode cX12_readLine 35 = .ok (.invokevirtual 123, 3) := by decide +kernel
theorem dX12_readLine_38 : decode cX12_readLine 38 = .ok (.ifCond .eq 10, 3) := by decide +kernel
theorem dX12_readLine_41 : decode cX12_readLine 41 = .ok (.aload_n 0, 1) := by decide +kernel
theorem dX12_readLine_42 : decode cX12_readLine 42 = .ok (.invokevirtual 249, 3) := by decide +kernel
theorem dX12_readLine_45 : decode cX12_readLine 45 = .ok (.goto 49, 3) := by decide +kernel
theorem dX12_readLine_48 : decode cX12_readLine 48 = .ok (.aload_n 0, 1) := by decide +kernel
theorem dX12_readLine_49 : decode cX12_readLine 49 = .ok (.ldc 252, 2) := by decide +kernel
theorem dX12_readLine_51 : decode cX12_readLine 51 = .ok (.invokevirtual 130, 3) := by decide +kernel
theorem dX12_readLine_54 : decode cX12_readLine 54 = .ok (.ifCond .eq 10, 3) := by decide +kernel
theorem dX12_readLine_57 : decode cX12_readLine 57 = .ok (.aload_n 0, 1) := by decide +kernel
theorem dX12_readLine_58 : decode cX12_readLine 58 = .ok (.invokevirtual 254, 3) := by decide +kernel
theorem dX12_readLine_6 : decode cX12_readLine 6 = .ok (.ifCond .eq 10, 3) := by decide +kernel
theorem dX12_readLine_61 : decode cX12_readLine 61 = .ok (.goto 33, 3) := by decide +kernel
theorem dX12_readLine_64 : decode cX12_readLine 64 = .ok (.aload_n 0, 1) := by decide +kernel
theorem dX12_readLine_65 : decode cX12_readLine 65 = .ok (.ldc_w 257, 3) := by decide +kernel
theorem dX12_readLine_68 : decode cX12_readLine 68 = .ok (.invokevirtual 130, 3) := by decide +kernel
theorem dX12_readLine_71 : decode cX12_readLine 71 = .ok (.ifCond .eq 18, 3) := by decide +kernel
theorem dX12_readLine_74 : decode cX12_readLine 74 = .ok (.aload_n 0, 1) := by decide +kernel
theorem dX12_readLine_75 : decode cX12_readLine 75 = .ok (.getfield 13, 3) := by decide +kernel
theorem dX12_readLine_78 : decode cX12_readLine 78 = .ok (.bipush 6, 2) := by decide +kernel
theorem dX12_readLine_80 : decode cX12_readLine 80 = .ok (.iconst 0, 1) := by decide +kernel
theorem dX12_readLine_81 : decode cX12_readLine 81 = .ok (.iastore, 1) := by decide +kernel
theorem dX12_readLine_82 : decode cX12_readLine 82 = .ok (.aload_n 0, 1) := by decide +kernel
theorem dX12_readLine_83 : decode cX12_readLine 83 = .ok (.invokevirtual 165, 3) := by decide +kernel
theorem dX12_readLine_86 : decode cX12_readLine 86 = .ok (.goto 8, 3) := by decide +kernel
theorem dX12_readLine_89 : decode cX12_readLine 89 = .ok (.aload_n 0, 1) := by decide +kernel
theorem dX12_readLine_9 : decode cX12_readLine 9 = .ok (.aload_n 0, 1) := by decide +kernel
theorem dX12_readLine_90 : decode cX12_readLine 90 = .ok (.iconst 2, 1) := by decide +kernel
theorem dX12_readLine_91 : decode cX12_readLine 91 = .ok (.invokevirtual 133, 3) := by decide +kernel
theorem dX12_readLine_94 : decode cX12_readLine 94 = .ok (.aload_n 0, 1) := by decide +kernel
theorem dX12_readLine_95 : decode cX12_readLine 95 = .ok (.invokevirtual 259, 3) := by decide +kernel
theorem dX12_readLine_98 : decode cX12_readLine 98 = .ok (.return_, 1) := by decide +kernel
theorem dX12_readStop_0 : decode cX12_readStop 0 = .ok (.aload_n 0, 1) := by decide +kernel
theorem dX12_readStop_1 : decode cX12_readStop 1 = .ok (.bipush 59, 2) := by decide +kernel
theorem dX12_readStop_10 : decode cX12_readStop 10 = .ok (.ifCond .ne 13, 3) := by decide +kernel
theorem dX12_readStop_13 : decode cX12_readStop 13 = .ok (.aload_n 0, 1) := by decide +kernel
theorem dX12_readStop_14 : decode cX12_readStop 14 = .ok (.getfield 13, 3) := by decide +kernel
theorem dX12_readStop_17 : decode cX12_readStop 17 = .ok (.iconst 0, 1) := by decide +kernel
theorem dX12_readStop_18 : decode cX12_readStop 18 = .ok (.dup2, 1) := by decide +kernel
theorem dX12_readStop_19 : decode cX12_readStop 19 = .ok (.iaload, 1) := by decide +kernel
theorem dX12_readStop_20 : decode cX12_readStop 20 = .ok (.iconst 1, 1) := by decide +kernel
theorem dX12_readStop_21 : decode cX12_readStop 21 = .ok (.iadd, 1) := by decide +kernel
theorem dX12_readStop_22 : decode cX12_readStop 22 = .ok (.iastore, 1) := by decide +kernel
theorem dX12_readStop_23 : decode cX12_readStop 23 = .ok (.return_, 1) := by decide +kernel
theorem dX12_readStop_3 : decode cX12_readStop 3 = .ok (.invokevirtual 168, 3) := by decide +kernel
theorem dX12_readStop_6 : decode cX12_readStop 6 = .ok (.aload_n 0, 1) := by decide +kernel
theorem dX12_readStop_7 : decode cX12_readStop 7 = .ok (.getfield 108, 3) := by decide +kernel
theorem dX12_town_0 : decode cX12_town 0 = .ok (.aload_n 0, 1) := by decide +kernel
theorem dX12_town_1 : decode cX12_town 1 = .ok (.iconst 0, 1) := by decide +kernel
theorem dX12_town_100 : decode cX12_town 100 = .ok (.aload_n 0, 1) := by decide +kernel
theorem dX12_town_101 : decode cX12_town 101 = .ok (.getfield 108, 3) := by decide +kernel
theorem dX12_town_104 : decode cX12_town 104 = .ok (.ifCond .ne 17, 3) := by decide +kernel
theorem dX12_town_107 : decode cX12_town 107 = .ok (.aload_n 0, 1) := by decide +kernel
theorem dX12_town_108 : decode cX12_town 108 = .ok (.getfield 88, 3) := by decide +kernel
theorem dX12_town_111 : decode cX12_town 111 = .ok (.ifCond .eq 10, 3) := by decide +kernel
theorem dX12_town_114 : decode cX12_town 114 = .ok (.aload_n 0, 1) := by decide +kernel
theorem dX12_town_115 : decode cX12_town 115 = .ok (.invokevirtual 267, 3) := by decide +kernel
theorem dX12_town_118 : decode cX12_town 118 = .ok (.goto (-18), 3) := by decide +kernel
theorem dX12_town_12 : decode cX12_town 12 = .ok (.i2l, 1) := by decide +kernel
theorem dX12_town_121 : decode cX12_town 121 = .ok (.aload_n 0, 1) := by decide +kernel
theorem dX12_town_122 : decode cX12_town 122 = .ok (.aload_n 0, 1) := by decide +kernel
theorem dX12_town_123 : decode cX12_town 123 = .ok (.getfield 108, 3) := by decide +kernel
theorem dX12_town_126 : decode cX12_town 126 = .ok (.putfield 270, 3) := by decide +kernel
theorem dX12_town_129 : decode cX12_town 129 = .ok (.aload_n 0, 1) := by decide +kernel
theorem dX12_town_13 : decode cX12_town 13 = .ok (.invokestatic 137, 3) := by decide +kernel
theorem dX12_town_130 : decode cX12_town 130 = .ok (.aload_n 0, 1) := by decide +kernel
theorem dX12_town_131 : decode cX12_town 131 = .ok (.getfield 108, 3) := by decide +kernel
theorem dX12_town_134 : decode cX12_town 134 = .ok (.ifCond .ne 7, 3) := by decide +kernel
theorem dX12_town_137 : decode cX12_town 137 = .ok (.iconst (-1), 1) := by decide +kernel
theorem dX12_town_138 : decode cX12_town 138 = .ok (.goto 7, 3) := by decide +kernel
theorem dX12_town_141 : decode cX12_town 141 = .ok (.aload_n 0, 1) := by decide +kernel
theorem dX12_town_142 : decode cX12_town 142 = .ok (.getfield 111, 3) := by decide +kernel
theorem dX12_town_145 : decode cX12_town 145 = .ok (.putfield 26, 3) := by decide +kernel
theorem dX12_town_148 : decode cX12_town 148 = .ok (.aload_n 0, 1) := by decide +kernel
theorem dX12_town_149 : decode cX12_town 149 = .ok (.getfield 108, 3) := by decide +kernel
theorem dX12_town_152 : decode cX12_town 152 = .ok (.ifCond .eq 11, 3) := by decide +kernel
theorem dX12_town_155 : decode cX12_town 155 = .ok (.bipush (-10), 2) := by decide +kernel
theorem dX12_town_157 : decode cX12_town 157 = .ok (.aload_n 0, 1) := by decide +kernel
theorem dX12_town_158 : decode cX12_town 158 = .ok (.getfield 108, 3) := by decide +kernel
theorem dX12_town_16 : decode cX12_town 16 = .ok (.ifCond .ne 9, 3) := by decide +kernel
theorem dX12_town_161 : decode cX12_town 161 = .ok (.isub, 1) := by decide +kernel
theorem dX12_town_162 : decode cX12_town 162 = .ok (.ireturn, 1) := by decide +kernel
theorem dX12_town_163 : decode cX12_town 163 = .ok (.iconst 0, 1) := by decide +kernel
theorem dX12_town_164 : decode cX12_town 164 = .ok (.istore_n 2, 1) := by decide +kernel
theorem dX12_town_165 : decode cX12_town 165 = .ok (.iload_n 2, 1) := by decide +kernel
theorem dX12_town_166 : decode cX12_town 166 = .ok (.sipush 1300, 3) := by decide +kernel
theorem dX12_town_169 : decode cX12_town 169 = .ok (.if_icmp .ge 21, 3) := by decide +kernel
theorem dX12_town_172 : decode cX12_town 172 = .ok (.aload_n 0, 1) := by decide +kernel
theorem dX12_town_173 : decode cX12_town 173 = .ok (.getfield 9, 3) := by decide +kernel
theorem dX12_town_176 : decode cX12_town 176 = .ok (.iload_n 2, 1) := by decide +kernel
theorem dX12_town_177 : decode cX12_town 177 = .ok (.aload_n 0, 1) := by decide +kernel
theorem dX12_town_178 : decode cX12_town 178 = .ok (.getfield 13, 3) := by decide +kernel
theorem dX12_town_181 : decode cX12_town 181 = .ok (.iload_n 2, 1) := by decide +kernel
theorem dX12_town_182 : decode cX12_town 182 = .ok (.iaload, 1) := by decide +kernel
theorem dX12_town_183 : decode cX12_town 183 = .ok (.iastore, 1) := by decide +kernel
theorem dX12_town_184 : decode cX12_town 184 = .ok (.iinc 2 1, 3) := by decide +kernel
theorem dX12_town_187 : decode cX12_town 187 = .ok (.goto (-22), 3) := by decide +kernel
theorem dX12_town_19 : decode cX12_town 19 = .ok (.aload_n 0, 1) := by decide +kernel
theorem dX12_town_190 : decode cX12_town 190 = .ok (.aload_n 0, 1) := by decide +kernel
theorem dX12_town_191 : decode cX12_town 191 = .ok (.getfield 9, 3) := by decide +kernel
theorem dX12_town_194 : decode cX12_town 194 = .ok (.iconst 0, 1) := by decide +kernel
theorem dX12_town_195 : decode cX12_town 195 = .ok (.iaload, 1) := by decide +kernel
theorem dX12_town_196 : decode cX12_town 196 = .ok (.ireturn, 1) := by decide +kernel
theorem dX12_town_2 : decode cX12_town 2 = .ok (.putfield 73, 3) := by decide +kernel
theorem dX12_town_20 : decode cX12_town 20 = .ok (.iconst 1, 1) := by decide +kernel
theorem dX12_town_21 : decode cX12_town 21 = .ok (.invokevirtual 262, 3) := by decide +kernel
theorem dX12_town_24 : decode cX12_town 24 = .ok (.ireturn, 1) := by decide +kernel
theorem dX12_town_25 : decode cX12_town 25 = .ok (.aload_n 0, 1) := by decide +kernel
theorem dX12_town_26 : decode cX12_town 26 = .ok (.iload_n 1, 1) := by decide +kernel
theorem dX12_town_27 : decode cX12_town 27 = .ok (.putfield 79, 3) := by decide +kernel
theorem dX12_town_30 : decode cX12_town 30 = .ok (.aload_n 0, 1) := by decide +kernel
theorem dX12_town_31 : decode cX12_town 31 = .ok (.iconst 0, 1) := by decide +kernel
theorem dX12_town_32 : decode cX12_town 32 = .ok (.putfield 76, 3) := by decide +kernel
theorem dX12_town_35 : decode cX12_town 35 = .ok (.aload_n 0, 1) := by decide +kernel
theorem dX12_town_36 : decode cX12_town 36 = .ok (.iconst 0, 1) := by decide +kernel
theorem dX12_town_37 : decode cX12_town 37 = .ok (.putfield 82, 3) := by decide +kernel
theorem dX12_town_40 : decode cX12_town 40 = .ok (.aload_n 0, 1) := by decide +kernel
theorem dX12_town_41 : decode cX12_town 41 = .ok (.iconst 0, 1) := by decide +kernel
theorem dX12_town_42 : decode cX12_town 42 = .ok (.putfield 108, 3) := by decide +kernel
theorem dX12_town_45 : decode cX12_town 45 = .ok (.aload_n 0, 1) := by decide +kernel
theorem dX12_town_46 : decode cX12_town 46 = .ok (.iconst 0, 1) := by decide +kernel
theorem dX12_town_47 : decode cX12_town 47 = .ok (.putfield 141, 3) := by decide +kernel
theorem dX12_town_5 : decode cX12_town 5 = .ok (.iload_n 1, 1) := by decide +kernel
theorem dX12_town_50 : decode cX12_town 50 = .ok (.iconst 0, 1) := by decide +kernel
theorem dX12_town_51 : decode cX12_town 51 = .ok (.istore_n 2, 1) := by decide +kernel
theorem dX12_town_52 : decode cX12_town 52 = .ok (.iload_n 2, 1) := by decide +kernel
theorem dX12_town_53 : decode cX12_town 53 = .ok (.sipush 1300, 3) := by decide +kernel
theorem dX12_town_56 : decode cX12_town 56 = .ok (.if_icmp .ge 16, 3) := by decide +kernel
theorem dX12_town_59 : decode cX12_town 59 = .ok (.aload_n 0, 1) := by decide +kernel
theorem dX12_town_6 : decode cX12_town 6 = .ok (.i2l, 1) := by decide +kernel
theorem dX12_town_60 : decode cX12_town 60 = .ok (.getfield 13, 3) := by decide +kernel
theorem dX12_town_63 : decode cX12_town 63 = .ok (.iload_n 2, 1) := by decide +kernel
theorem dX12_town_64 : decode cX12_town 64 = .ok (.iconst 0, 1) := by decide +kernel
theorem dX12_town_65 : decode cX12_town 65 = .ok (.iastore, 1) := by decide +kernel
theorem dX12_town_66 : decode cX12_town 66 = .ok (.iinc 2 1, 3) := by decide +kernel
theorem dX12_town_69 : decode cX12_town 69 = .ok (.goto (-17), 3) := by decide +kernel
theorem dX12_town_7 : decode cX12_town 7 = .ok (.lconst 0, 1) := by decide +kernel
theorem dX12_town_72 : decode cX12_town 72 = .ok (.aload_n 0, 1) := by decide +kernel
theorem dX12_town_73 : decode cX12_town 73 = .ok (.invokevirtual 127, 3) := by decide +kernel
theorem dX12_town_76 : decode cX12_town 76 = .ok (.aload_n 0, 1) := by decide +kernel
theorem dX12_town_77 : decode cX12_town 77 = .ok (.ldc_w 265, 3) := by decide +kernel
theorem dX12_town_8 : decode cX12_town 8 = .ok (.aload_n 0, 1) := by decide +kernel
theorem dX12_town_80 : decode cX12_town 80 = .ok (.invokevirtual 215, 3) := by decide +kernel
theorem dX12_town_83 : decode cX12_town 83 = .ok (.aload_n 0, 1) := by decide +kernel
theorem dX12_town_84 : decode cX12_town 84 = .ok (.getfield 13, 3) := by decide +kernel
theorem dX12_town_87 : decode cX12_town 87 = .ok (.iconst 1, 1) := by decide +kernel
theorem dX12_town_88 : decode cX12_town 88 = .ok (.aload_n 0, 1) := by decide +kernel
theorem dX12_town_89 : decode cX12_town 89 = .ok (.iconst 1, 1) := by decide +kernel
theorem dX12_town_9 : decode cX12_town 9 = .ok (.getfield 76, 3) := by decide +kernel
theorem dX12_town_90 : decode cX12_town 90 = .ok (.bipush 10, 2) := by decide +kernel
theorem dX12_town_92 : decode cX12_town 92 = .ok (.invokevirtual 199, 3) := by decide +kernel
theorem dX12_town_95 : decode cX12_town 95 = .ok (.iastore, 1) := by decide +kernel
theorem dX12_town_96 : decode cX12_town 96 = .ok (.aload_n 0, 1) := by decide +kernel
theorem dX12_town_97 : decode cX12_town 97 = .ok (.invokevirtual 259, 3) := by decide +kernel
theorem dX6_sortOf_0 : decode cX6_sortOf 0 = .ok (.iload_n 0, 1) := by decide +kernel
theorem dX6_sortOf_1 : decode cX6_sortOf 1 = .ok (.bipush 97, 2) := by decide +kernel
theorem dX6_sortOf_12 : decode cX6_sortOf 12 = .ok (.iconst 1, 1) := by decide +kernel
theorem dX6_sortOf_13 : decode cX6_sortOf 13 = .ok (.ireturn, 1) := by decide +kernel
theorem dX6_sortOf_14 : decode cX6_sortOf 14 = .ok (.iload_n 0, 1) := by decide +kernel
theorem dX6_sortOf_15 : decode cX6_sortOf 15 = .ok (.bipush 48, 2) := by decide +kernel
theorem dX6_sortOf_17 : decode cX6_sortOf 17 = .ok (.if_icmp .lt 11, 3) := by decide +kernel
theorem dX6_sortOf_20 : decode cX6_sortOf 20 = .ok (.iload_n 0, 1) := by decide +kernel
theorem dX6_sortOf_21 : decode cX6_sortOf 21 = .ok (.bipush 57, 2) := by decide +kernel
theorem dX6_sortOf_23 : decode cX6_sortOf 23 = .ok (.if_icmp .gt 5, 3) := by decide +kernel
theorem dX6_sortOf_26 : decode cX6_sortOf 26 = .ok (.iconst 2, 1) := by decide +kernel
theorem dX6_sortOf_27 : decode cX6_sortOf 27 = .ok (.ireturn, 1) := by decide +kernel
theorem dX6_sortOf_28 : decode cX6_sortOf 28 = .ok (.iload_n 0, 1) := by decide +kernel
theorem dX6_sortOf_29 : decode cX6_sortOf 29 = .ok (.ifCond .le 17, 3) := by decide +kernel
theorem dX6_sortOf_3 : decode cX6_sortOf 3 = .ok (.if_icmp .lt 11, 3) := by decide +kernel
theorem dX6_sortOf_32 : decode cX6_sortOf 32 = .ok (.ldc 67, 2) := by decide +kernel
theorem dX6_sortOf_34 : decode cX6_sortOf 34 = .ok (.iload_n 0, 1) := by decide +kernel
theorem dX6_sortOf_35 : decode cX6_sortOf 35 = .ok (.i2c, 1) := by decide +kernel
theorem dX6_sortOf_36 : decode cX6_sortOf 36 = .ok (.invokevirtual 69, 3) := by decide +kernel
theorem dX6_sortOf_39 : decode cX6_sortOf 39 = .ok (.ifCond .lt 7, 3) := by decide +kernel
theorem dX6_sortOf_42 : decode cX6_sortOf 42 = .ok (.iconst 3, 1) := by decide +kernel
theorem dX6_sortOf_43 : decode cX6_sortOf 43 = .ok (.goto 4, 3) := by decide +kernel
theorem dX6_sortOf_46 : decode cX6_sortOf 46 = .ok (.iconst 4, 1) := by decide +kernel
theorem dX6_sortOf_47 : decode cX6_sortOf 47 = .ok (.ireturn, 1) := by decide +kernel
theorem dX6_sortOf_6 : decode cX6_sortOf 6 = .ok (.iload_n 0, 1) := by decide +kernel
theorem dX6_sortOf_7 : decode cX6_sortOf 7 = .ok (.bipush 122, 2) := by decide +kernel
theorem dX6_sortOf_9 : decode cX6_sortOf 9 = .ok (.if_icmp .gt 5, 3) := by decide +kernel
set_option maxHeartbeats 4000000 in
set_option maxRecDepth 4000 in
theorem kp_X12_isWord_131_1068 (l : Launch) (M : Mem) (hJ : Iw M) (hp0 : 0 ≤ M 131 9 ∧ M 131 9 ≤ M 131 8 ∧ M 131 8 ≤ M 131 7 ∧ M 131 7 ≤ 900 ∧ (M 131 10 = 0 ∨ M 131 9 < M 131 8)) : CI l yX12_isWord cX12_isWord 4 (some .boolean) 5 (fun ad => [.ref (ad 131), .ref (ad 1068)]) M (fun z M' => (0 ≤ z ∧ z ≤ 1) ∧ M = M' ∧ (z = 1 → M 131 12 = 0 ∧ M 131 10 = 1)) := by
  obtain ⟨hI, hW⟩ := hJ
  refine en_z (by decide +kernel) (fun ad => by exact Nat.le_of_ble_eq_true rfl) (fun D cy ad A p e s m args below meth c Q F hret => ?_)
  refine z_eq (ls' := [(0, .ref (ad 131)), (1, .ref (ad 1068))]) rfl rfl rfl ?_
  obtain ⟨u1, eu1⟩ : ∃ v : Int, v = M 131 7 := ⟨_, rfl⟩
  have ku1 : 0 ≤ u1 ∧ u1 ≤ 900 := by have := hI.at (show Bd 131 7 = (0, 900) from rfl); omega
  obtain ⟨u2, eu2⟩ : ∃ v : Int, v = M 131 8 := ⟨_, rfl⟩
  have ku2 : 0 ≤ u2 ∧ u2 ≤ 900 := by have := hI.at (show Bd 131 8 = (0, 900) from rfl); omega
  obtain ⟨u3, eu3⟩ : ∃ v : Int, v = M 131 9 := ⟨_, rfl⟩
  have ku3 : 0 ≤ u3 ∧ u3 ≤ 900 := by have := hI.at (show Bd 131 9 = (0, 900) from rfl); omega
  obtain ⟨u4, eu4⟩ : ∃ v : Int, v = M 131 10 := ⟨_, rfl⟩
  have ku4 : (-2147483648) ≤ u4 ∧ u4 ≤ 2147483647 := by have := hI.at (show Bd 131 10 = (-2147483648, 2147483647) from rfl); omega
  obtain ⟨u5, eu5⟩ : ∃ v : Int, v = M 131 12 := ⟨_, rfl⟩
  have ku5 : 0 ≤ u5 ∧ u5 ≤ 4 := by have := hI.at (show Bd 131 12 = (0, 4) from rfl); omega
  obtain ⟨u6, eu6⟩ : ∃ v : Int, v = M 131 16 := ⟨_, rfl⟩
  have ku6 : (-2147483648) ≤ u6 ∧ u6 ≤ 2147483647 := by have := hI.at (show Bd 131 16 = (-2147483648, 2147483647) from rfl); omega
  refine z_aload_n F dX12_isWord_0 rfl (q := 0) rfl ?_
  refine gf_X12_108 F hI gs_131 rfl bd_131_12 dX12_isWord_1 (fun v7 ev7 av7 bv7 => ?_)
  have zv7 : u5 = v7 := eu5.trans ev7.symm
  subst zv7
  refine z_if_ne (tgt := 35) F dX12_isWord_4 (by decide +kernel) (by omega) (fun c8 => ?_) (fun c8 => ?_)
  · refine z_iconst F dX12_isWord_35 ?_
    refine z_istore_n F dX12_isWord_36 rfl (by decide) (ls' := [(2, ii 0), (0, .ref (ad 131)), (1, .ref (ad 1068))]) rfl ?_
    refine z_iconst F dX12_isWord_37 ?_
    refine z_istore_n F dX12_isWord_38 rfl (by decide) (ls' := [(3, ii 0), (2, ii 0), (0, .ref (ad 131)), (1, .ref (ad 1068))]) rfl ?_
    refine z_loc [2, 3, 1, 0] (ls' := [(0, .ref (ad 131)), (1, .ref (ad 1068)), (2, ii 0), (3, ii 0)]) rfl ?_
    suffices key39 : ∀ (n : Nat) (y10 : Int) (y11 : Int), 0 ≤ y10 → y10 ≤ 0 → 0 ≤ y11 → y11 ≤ 0 → (y10 = 1 → M 131 12 = 0 ∧ M 131 10 = 1 ∧ M 131 8 - M 131 9 = 4) → 0 < (n : Int) → Z D cy ad p l e (RMh 5) s m args below meth c A 4 0 0 Q 39 [(0, .ref (ad 131)), (1, .ref (ad 1068)), (2, ii y10), (3, ii y11)] [] M from key39 1 0 0 (by omega) (by omega) (by omega) (by omega) (by omega) (by omega)
    intro n39
    induction n39 with
    | zero => intro y10 y11 ay10 by10 ay11 by11 i39_0 hn39; exfalso; omega
    | succ n39 ih39 =>
      intro y10 y11 ay10 by10 ay11 by11 i39_0 hn39
      refine z_iload_n F dX12_isWord_39 rfl (q := 2) rfl ?_
      refine z_if_eq (tgt := 82) F dX12_isWord_40 (by decide +kernel) (by omega) (fun c12 => ?_) (fun c12 => by exfalso; omega)
      refine z_iload_n F dX12_isWord_82 rfl (q := 2) rfl ?_
      exact hret _ _ 83 _ ⟨by omega, by omega⟩ ⟨hI, hW⟩ ⟨⟨by omega, by omega⟩, rfl, (by omega)⟩ dX12_isWord_83
  · refine z_aload_n F dX12_isWord_7 rfl (q := 0) rfl ?_
    refine gf_X12_88 F hI gs_131 rfl bd_131_10 dX12_isWord_8 (fun v13 ev13 av13 bv13 => ?_)
    have zv13 : u4 = v13 := eu4.trans ev13.symm
    subst zv13
    refine z_iconst F dX12_isWord_11 ?_
    refine z_icmp_ne (tgt := 35) F dX12_isWord_12 (by decide +kernel) (by omega) (by omega) (fun c14 => ?_) (fun c14 => ?_)
    · refine z_iconst F dX12_isWord_35 ?_
      refine z_istore_n F dX12_isWord_36 rfl (by decide) (ls' := [(2, ii 0), (0, .ref (ad 131)), (1, .ref (ad 1068))]) rfl ?_
      refine z_iconst F dX12_isWord_37 ?_
      refine z_istore_n F dX12_isWord_38 rfl (by decide) (ls' := [(3, ii 0), (2, ii 0), (0, .ref (ad 131)), (1, .ref (ad 1068))]) rfl ?_
      refine z_loc [2, 3, 1, 0] (ls' := [(0, .ref (ad 131)), (1, .ref (ad 1068)), (2, ii 0), (3, ii 0)]) rfl ?_
      suffices key39 : ∀ (n : Nat) (y16 : Int) (y17 : Int), 0 ≤ y16 → y16 ≤ 0 → 0 ≤ y17 → y17 ≤ 0 → (y16 = 1 → M 131 12 = 0 ∧ M 131 10 = 1 ∧ M 131 8 - M 131 9 = 4) → 0 < (n : Int) → Z D cy ad p l e (RMh 5) s m args below meth c A 4 0 0 Q 39 [(0, .ref (ad 131)), (1, .ref (ad 1068)), (2, ii y16), (3, ii y17)] [] M from key39 1 0 0 (by omega) (by omega) (by omega) (by omega) (by omega) (by omega)
      intro n39
      induction n39 with
      | zero => intro y16 y17 ay16 by16 ay17 by17 i39_0 hn39; exfalso; omega
      | succ n39 ih39 =>
        intro y16 y17 ay16 by16 ay17 by17 i39_0 hn39
        refine z_iload_n F dX12_isWord_39 rfl (q := 2) rfl ?_
        refine z_if_eq (tgt := 82) F dX12_isWord_40 (by decide +kernel) (by omega) (fun c18 => ?_) (fun c18 => by exfalso; omega)
        refine z_iload_n F dX12_isWord_82 rfl (q := 2) rfl ?_
        exact hret _ _ 83 _ ⟨by omega, by omega⟩ ⟨hI, hW⟩ ⟨⟨by omega, by omega⟩, rfl, (by omega)⟩ dX12_isWord_83
    · refine z_aload_n F dX12_isWord_15 rfl (q := 0) rfl ?_
      refine gf_X12_82 F hI gs_131 rfl bd_131_8 dX12_isWord_16 (fun v19 ev19 av19 bv19 => ?_)
      have zv19 : u2 = v19 := eu2.trans ev19.symm
      subst zv19
      refine z_aload_n F dX12_isWord_19 rfl (q := 0) rfl ?_
      refine gf_X12_85 F hI gs_131 rfl bd_131_9 dX12_isWord_20 (fun v20 ev20 av20 bv20 => ?_)
      have zv20 : u3 = v20 := eu3.trans ev20.symm
      subst zv20
      refine z_isub F dX12_isWord_23 ?_
      refine z_aload_n F dX12_isWord_24 rfl (q := 1) rfl ?_
      refine zvs_i (i := 68) (rest := [ii (u2 - u3)]) F (kS_len l M ⟨hI, hW⟩ 68 (by decide)) cs_X12_114 (by decide) (by decide) (by decide) rfl rfl rfl (Nat.le_of_ble_eq_true rfl) dX12_isWord_25 (fun v21 M9 rv21 hI9 pv21 => ?_)
      obtain ⟨ev21, rfl⟩ := pv21
      obtain rfl : v21 = 4 := ev21.trans (show ((sbyt.getD 68 []).length : Int) = 4 from by decide)
      clear hI9
      refine z_icmp_ne (tgt := 35) F dX12_isWord_28 (by decide +kernel) (by omega) (by omega) (fun c22 => ?_) (fun c22 => ?_)
      · refine z_iconst F dX12_isWord_35 ?_
        refine z_istore_n F dX12_isWord_36 rfl (by decide) (ls' := [(2, ii 0), (0, .ref (ad 131)), (1, .ref (ad 1068))]) rfl ?_
        refine z_iconst F dX12_isWord_37 ?_
        refine z_istore_n F dX12_isWord_38 rfl (by decide) (ls' := [(3, ii 0), (2, ii 0), (0, .ref (ad 131)), (1, .ref (ad 1068))]) rfl ?_
        refine z_loc [2, 3, 1, 0] (ls' := [(0, .ref (ad 131)), (1, .ref (ad 1068)), (2, ii 0), (3, ii 0)]) rfl ?_
        suffices key39 : ∀ (n : Nat) (y24 : Int) (y25 : Int), 0 ≤ y24 → y24 ≤ 0 → 0 ≤ y25 → y25 ≤ 0 → (y24 = 1 → M 131 12 = 0 ∧ M 131 10 = 1 ∧ M 131 8 - M 131 9 = 4) → 0 < (n : Int) → Z D cy ad p l e (RMh 5) s m args below meth c A 4 0 0 Q 39 [(0, .ref (ad 131)), (1, .ref (ad 1068)), (2, ii y24), (3, ii y25)] [] M from key39 1 0 0 (by omega) (by omega) (by omega) (by omega) (by omega) (by omega)
        intro n39
        induction n39 with
        | zero => intro y24 y25 ay24 by24 ay25 by25 i39_0 hn39; exfalso; omega
        | succ n39 ih39 =>
          intro y24 y25 ay24 by24 ay25 by25 i39_0 hn39
          refine z_iload_n F dX12_isWord_39 rfl (q := 2) rfl ?_
          refine z_if_eq (tgt := 82) F dX12_isWord_40 (by decide +kernel) (by omega) (fun c26 => ?_) (fun c26 => by exfalso; omega)
          refine z_iload_n F dX12_isWord_82 rfl (q := 2) rfl ?_
          exact hret _ _ 83 _ ⟨by omega, by omega⟩ ⟨hI, hW⟩ ⟨⟨by omega, by omega⟩, rfl, (by omega)⟩ dX12_isWord_83
      · refine z_iconst F dX12_isWord_31 ?_
        refine z_goto (tgt := 36) F dX12_isWord_32 (by decide +kernel) ?_
        refine z_istore_n F dX12_isWord_36 rfl (by decide) (ls' := [(2, ii 1), (0, .ref (ad 131)), (1, .ref (ad 1068))]) rfl ?_
        refine z_iconst F dX12_isWord_37 ?_
        refine z_istore_n F dX12_isWord_38 rfl (by decide) (ls' := [(3, ii 0), (2, ii 1), (0, .ref (ad 131)), (1, .ref (ad 1068))]) rfl ?_
        refine z_loc [2, 3, 1, 0] (ls' := [(0, .ref (ad 131)), (1, .ref (ad 1068)), (2, ii 1), (3, ii 0)]) rfl ?_
        suffices key39 : ∀ (n : Nat) (y28 : Int) (y29 : Int), 0 ≤ y28 → y28 ≤ 1 → 0 ≤ y29 → y29 ≤ 4 → (y28 = 1 → M 131 12 = 0 ∧ M 131 10 = 1 ∧ M 131 8 - M 131 9 = 4) → 4 - y29 < (n : Int) → Z D cy ad p l e (RMh 5) s m args below meth c A 4 0 0 Q 39 [(0, .ref (ad 131)), (1, .ref (ad 1068)), (2, ii y28), (3, ii y29)] [] M from key39 5 1 0 (by omega) (by omega) (by omega) (by omega) (by omega) (by omega)
        intro n39
        induction n39 with
        | zero => intro y28 y29 ay28 by28 ay29 by29 i39_0 hn39; exfalso; omega
        | succ n39 ih39 =>
          intro y28 y29 ay28 by28 ay29 by29 i39_0 hn39
          refine z_iload_n F dX12_isWord_39 rfl (q := 2) rfl ?_
          refine z_if_eq (tgt := 82) F dX12_isWord_40 (by decide +kernel) (by omega) (fun c30 => ?_) (fun c30 => ?_)
          · refine z_iload_n F dX12_isWord_82 rfl (q := 2) rfl ?_
            exact hret _ _ 83 _ ⟨by omega, by omega⟩ ⟨hI, hW⟩ ⟨⟨by omega, by omega⟩, rfl, (by omega)⟩ dX12_isWord_83
          · refine z_iload_n F dX12_isWord_43 rfl (q := 3) rfl ?_
            refine z_aload_n F dX12_isWord_44 rfl (q := 1) rfl ?_
            refine zvs_i (i := 68) (rest := [ii y29]) F (kS_len l M ⟨hI, hW⟩ 68 (by decide)) cs_X12_114 (by decide) (by decide) (by decide) rfl rfl rfl (Nat.le_of_ble_eq_true rfl) dX12_isWord_45 (fun v31 M9 rv31 hI9 pv31 => ?_)
            obtain ⟨ev31, rfl⟩ := pv31
            obtain rfl : v31 = 4 := ev31.trans (show ((sbyt.getD 68 []).length : Int) = 4 from by decide)
            clear hI9
            refine z_icmp_ge (tgt := 82) F dX12_isWord_48 (by decide +kernel) (by omega) (by omega) (fun c32 => ?_) (fun c32 => ?_)
            · refine z_iload_n F dX12_isWord_82 rfl (q := 2) rfl ?_
              exact hret _ _ 83 _ ⟨by omega, by omega⟩ ⟨hI, hW⟩ ⟨⟨by omega, by omega⟩, rfl, (by omega)⟩ dX12_isWord_83
            · refine z_aload_n F dX12_isWord_51 rfl (q := 0) rfl ?_
              refine rf_X12_23 F gs_131 rfl dX12_isWord_52 ?_
              refine z_aload_n F dX12_isWord_55 rfl (q := 0) rfl ?_
              refine gf_X12_85 F hI gs_131 rfl bd_131_9 dX12_isWord_56 (fun v33 ev33 av33 bv33 => ?_)
              have zv33 : u3 = v33 := eu3.trans ev33.symm
              subst zv33
              refine z_iload_n F dX12_isWord_59 rfl (q := 3) rfl ?_
              refine z_iadd F dX12_isWord_60 ?_
              have k34 : 0 ≤ (u3 + y29) ∧ (u3 + y29) ≤ 899 := by omega
              refine z_iald F hI gs_136 (by omega) (by omega) (by decide) bd_136 dX12_isWord_61 (fun v35 (ev35 : v35 = M 136 _) av35 bv35 => ?_)
              refine z_aload_n F dX12_isWord_62 rfl (q := 1) rfl ?_
              refine z_iload_n F dX12_isWord_63 rfl (q := 3) rfl ?_
              refine zvs_i (i := 68) (rest := [ii v35]) F (kS_chr l M ⟨hI, hW⟩ 68 (by decide) y29 (by omega) (show y29 < ((sbyt.getD 68 []).length : Int) from by rw [show ((sbyt.getD 68 []).length : Int) = 4 from by decide]; omega)) cs_X12_119 (by decide) (by decide) (by decide) rfl rfl rfl (Nat.le_of_ble_eq_true rfl) dX12_isWord_64 (fun v36 M9 rv36 hI9 pv36 => ?_)
              obtain ⟨⟨av36, bv36⟩, rfl⟩ := pv36
              clear hI9
              refine z_icmp_ne (tgt := 74) F dX12_isWord_67 (by decide +kernel) (by omega) (by omega) (fun c37 => ?_) (fun c37 => ?_)
              · refine z_iconst F dX12_isWord_74 ?_
                refine z_istore_n F dX12_isWord_75 rfl (by decide) (ls' := [(2, ii 0), (0, .ref (ad 131)), (1, .ref (ad 1068)), (3, ii y29)]) rfl ?_
                refine z_iincN F dX12_isWord_76 (q := 3) rfl (by decide) (fun v38 ev38 => ?_)
                refine z_eq (ls' := [(3, ii v38), (2, ii 0), (0, .ref (ad 131)), (1, .ref (ad 1068))]) rfl rfl rfl ?_
                refine z_goto (tgt := 39) F dX12_isWord_79 (by decide +kernel) ?_
                refine z_loc [2, 3, 1, 0] (ls' := [(0, .ref (ad 131)), (1, .ref (ad 1068)), (2, ii 0), (3, ii v38)]) rfl ?_
                exact ih39 0 v38 (by omega) (by omega) (by omega) (by omega) (by omega) (by omega)
              · refine z_iconst F dX12_isWord_70 ?_
                refine z_goto (tgt := 75) F dX12_isWord_71 (by decide +kernel) ?_
                refine z_istore_n F dX12_isWord_75 rfl (by decide) (ls' := [(2, ii 1), (0, .ref (ad 131)), (1, .ref (ad 1068)), (3, ii y29)]) rfl ?_
                refine z_iincN F dX12_isWord_76 (q := 3) rfl (by decide) (fun v39 ev39 => ?_)
                refine z_eq (ls' := [(3, ii v39), (2, ii 1), (0, .ref (ad 131)), (1, .ref (ad 1068))]) rfl rfl rfl ?_
                refine z_goto (tgt := 39) F dX12_isWord_79 (by decide +kernel) ?_
                refine z_loc [2, 3, 1, 0] (ls' := [(0, .ref (ad 131)), (1, .ref (ad 1068)), (2, ii 1), (3, ii v39)]) rfl ?_
                exact ih39 1 v39 (by omega) (by omega) (by omega) (by omega) (by omega) (by omega)
set_option maxHeartbeats 4000000 in
set_option maxRecDepth 4000 in
theorem kp_X12_took_131_1068 (l : Launch) (M : Mem) (hJ : Iw M) (hp0 : 0 ≤ M 131 9 ∧ M 131 9 ≤ M 131 8 ∧ M 131 8 ≤ M 131 7 ∧ M 131 7 ≤ 900 ∧ (M 131 10 = 0 ∨ M 131 9 < M 131 8)) : CI l yX12_took cX12_took 3 (some .boolean) 6 (fun ad => [.ref (ad 131), .ref (ad 1068)]) M (fun z M' => (0 ≤ z ∧ z ≤ 1) ∧ Fr [131] M M' ∧ (M' 131 7 = M 131 7 ∧ M' 131 16 = M 131 16 ∧ M 131 9 ≤ M' 131 9 ∧ 0 ≤ M' 131 9 ∧ M' 131 9 ≤ M' 131 8 ∧ M' 131 8 ≤ M' 131 7 ∧ M' 131 7 ≤ 900 ∧ (M' 131 10 = 0 ∨ M' 131 9 < M' 131 8) ∧ M' 131 12 = M 131 12 ∧ (z = 1 → M 131 12 = 0 ∧ M 131 9 < M' 131 9))) := by
  obtain ⟨hI, hW⟩ := hJ
  have hF : Fr [131] M M := Fr.rf
  refine en_z (by decide +kernel) (fun ad => by exact Nat.le_of_ble_eq_true rfl) (fun D cy ad A p e s m args below meth c Q F hret => ?_)
  refine z_eq (ls' := [(0, .ref (ad 131)), (1, .ref (ad 1068))]) rfl rfl rfl ?_
  refine z_aload_n F dX12_took_0 rfl (q := 0) rfl ?_
  refine z_aload_n F dX12_took_1 rfl (q := 1) rfl ?_
  refine zv_i (rest := []) F (kp_X12_isWord_131_1068 l M ⟨hI, hW⟩ (by omega)) cs_X12_123 (T := TX12) (N := 44) (ci := 12) rfl gs_131 (by decide) (by decide) rfl rfl rfl (Nat.le_of_ble_eq_true rfl) dX12_took_2 (fun v1 M2 rv1 hI p3 => ?_)
  obtain ⟨hI, hW⟩ := hI
  obtain ⟨⟨av1, bv1⟩, rfl, xp3⟩ := p3
  refine z_istore_n F dX12_took_5 rfl (by decide) (ls' := [(2, ii v1), (0, .ref (ad 131)), (1, .ref (ad 1068))]) rfl ?_
  refine z_iload_n F dX12_took_6 rfl (q := 0) rfl ?_
  refine z_if_eq (tgt := 14) F dX12_took_7 (by decide +kernel) (by omega) (fun c4 => ?_) (fun c4 => ?_)
  · refine z_iload_n F dX12_took_14 rfl (q := 0) rfl ?_
    exact hret _ _ 15 _ ⟨by omega, by omega⟩ ⟨hI, hW⟩ ⟨⟨by omega, by omega⟩, hF, (by omega)⟩ dX12_took_15
  · refine z_aload_n F dX12_took_10 rfl (q := 1) rfl ?_
    refine zv_v (rest := []) F (kp_X12_readsOn l M ⟨hI, hW⟩ (by omega)) cs_X12_127 (T := TX12) (N := 44) (ci := 12) rfl gs_131 (by decide) (by decide) rfl rfl rfl (Nat.le_of_ble_eq_true rfl) dX12_took_11 (fun M5 hI p6 => ?_)
    obtain ⟨hI, hW⟩ := hI
    obtain ⟨fp6, xp6⟩ := p6
    have hF := hF.call fp6 (by decide)
    have tM5_133_6 : M5 133 6 = M 133 6 := fp6.at (by decide)
    have tM5_133_1 : M5 133 1 = M 133 1 := fp6.at (by decide)
    refine z_iload_n F dX12_took_14 rfl (q := 0) rfl ?_
    exact hret _ _ 15 _ ⟨by omega, by omega⟩ ⟨hI, hW⟩ ⟨⟨by omega, by omega⟩, hF, (by omega)⟩ dX12_took_15
set_option maxHeartbeats 4000000 in
set_option maxRecDepth 4000 in
theorem kp_X12_isWord_131_1073 (l : Launch) (M : Mem) (hJ : Iw M) (hp0 : 0 ≤ M 131 9 ∧ M 131 9 ≤ M 131 8 ∧ M 131 8 ≤ M 131 7 ∧ M 131 7 ≤ 900 ∧ (M 131 10 = 0 ∨ M 131 9 < M 131 8)) : CI l yX12_isWord cX12_isWord 4 (some .boolean) 5 (fun ad => [.ref (ad 131), .ref (ad 1073)]) M (fun z M' => (0 ≤ z ∧ z ≤ 1) ∧ M = M' ∧ (z = 1 → M 131 12 = 0 ∧ M 131 10 = 1)) := by
  obtain ⟨hI, hW⟩ := hJ
  refine en_z (by decide +kernel) (fun ad => by exact Nat.le_of_ble_eq_true rfl) (fun D cy ad A p e s m args below meth c Q F hret => ?_)
  refine z_eq (ls' := [(0, .ref (ad 131)), (1, .ref (ad 1073))]) rfl rfl rfl ?_
  obtain ⟨u1, eu1⟩ : ∃ v : Int, v = M 131 7 := ⟨_, rfl⟩
  have ku1 : 0 ≤ u1 ∧ u1 ≤ 900 := by have := hI.at (show Bd 131 7 = (0, 900) from rfl); omega
  obtain ⟨u2, eu2⟩ : ∃ v : Int, v = M 131 8 := ⟨_, rfl⟩
  have ku2 : 0 ≤ u2 ∧ u2 ≤ 900 := by have := hI.at (show Bd 131 8 = (0, 900) from rfl); omega
  obtain ⟨u3, eu3⟩ : ∃ v : Int, v = M 131 9 := ⟨_, rfl⟩
  have ku3 : 0 ≤ u3 ∧ u3 ≤ 900 := by have := hI.at (show Bd 131 9 = (0, 900) from rfl); omega
  obtain ⟨u4, eu4⟩ : ∃ v : Int, v = M 131 10 := ⟨_, rfl⟩
  have ku4 : (-2147483648) ≤ u4 ∧ u4 ≤ 2147483647 := by have := hI.at (show Bd 131 10 = (-2147483648, 2147483647) from rfl); omega
  obtain ⟨u5, eu5⟩ : ∃ v : Int, v = M 131 12 := ⟨_, rfl⟩
  have ku5 : 0 ≤ u5 ∧ u5 ≤ 4 := by have := hI.at (show Bd 131 12 = (0, 4) from rfl); omega
  obtain ⟨u6, eu6⟩ : ∃ v : Int, v = M 131 16 := ⟨_, rfl⟩
  have ku6 : (-2147483648) ≤ u6 ∧ u6 ≤ 2147483647 := by have := hI.at (show Bd 131 16 = (-2147483648, 2147483647) from rfl); omega
  refine z_aload_n F dX12_isWord_0 rfl (q := 0) rfl ?_
  refine gf_X12_108 F hI gs_131 rfl bd_131_12 dX12_isWord_1 (fun v7 ev7 av7 bv7 => ?_)
  have zv7 : u5 = v7 := eu5.trans ev7.symm
  subst zv7
  refine z_if_ne (tgt := 35) F dX12_isWord_4 (by decide +kernel) (by omega) (fun c8 => ?_) (fun c8 => ?_)
  · refine z_iconst F dX12_isWord_35 ?_
    refine z_istore_n F dX12_isWord_36 rfl (by decide) (ls' := [(2, ii 0), (0, .ref (ad 131)), (1, .ref (ad 1073))]) rfl ?_
    refine z_iconst F dX12_isWord_37 ?_
    refine z_istore_n F dX12_isWord_38 rfl (by decide) (ls' := [(3, ii 0), (2, ii 0), (0, .ref (ad 131)), (1, .ref (ad 1073))]) rfl ?_
    refine z_loc [2, 3, 1, 0] (ls' := [(0, .ref (ad 131)), (1, .ref (ad 1073)), (2, ii 0), (3, ii 0)]) rfl ?_
    suffices key39 : ∀ (n : Nat) (y10 : Int) (y11 : Int), 0 ≤ y10 → y10 ≤ 0 → 0 ≤ y11 → y11 ≤ 0 → (y10 = 1 → M 131 12 = 0 ∧ M 131 10 = 1 ∧ M 131 8 - M 131 9 = 3) → 0 < (n : Int) → Z D cy ad p l e (RMh 5) s m args below meth c A 4 0 0 Q 39 [(0, .ref (ad 131)), (1, .ref (ad 1073)), (2, ii y10), (3, ii y11)] [] M from key39 1 0 0 (by omega) (by omega) (by omega) (by omega) (by omega) (by omega)
    intro n39
    induction n39 with
    | zero => intro y10 y11 ay10 by10 ay11 by11 i39_0 hn39; exfalso; omega
    | succ n39 ih39 =>
      intro y10 y11 ay10 by10 ay11 by11 i39_0 hn39
      refine z_iload_n F dX12_isWord_39 rfl (q := 2) rfl ?_
      refine z_if_eq (tgt := 82) F dX12_isWord_40 (by decide +kernel) (by omega) (fun c12 => ?_) (fun c12 => by exfalso; omega)
      refine z_iload_n F dX12_isWord_82 rfl (q := 2) rfl ?_
      exact hret _ _ 83 _ ⟨by omega, by omega⟩ ⟨hI, hW⟩ ⟨⟨by omega, by omega⟩, rfl, (by omega)⟩ dX12_isWord_83
  · refine z_aload_n F dX12_isWord_7 rfl (q := 0) rfl ?_
    refine gf_X12_88 F hI gs_131 rfl bd_131_10 dX12_isWord_8 (fun v13 ev13 av13 bv13 => ?_)
    have zv13 : u4 = v13 := eu4.trans ev13.symm
    subst zv13
    refine z_iconst F dX12_isWord_11 ?_
    refine z_icmp_ne (tgt := 35) F dX12_isWord_12 (by decide +kernel) (by omega) (by omega) (fun c14 => ?_) (fun c14 => ?_)
    · refine z_iconst F dX12_isWord_35 ?_
      refine z_istore_n F dX12_isWord_36 rfl (by decide) (ls' := [(2, ii 0), (0, .ref (ad 131)), (1, .ref (ad 1073))]) rfl ?_
      refine z_iconst F dX12_isWord_37 ?_
      refine z_istore_n F dX12_isWord_38 rfl (by decide) (ls' := [(3, ii 0), (2, ii 0), (0, .ref (ad 131)), (1, .ref (ad 1073))]) rfl ?_
      refine z_loc [2, 3, 1, 0] (ls' := [(0, .ref (ad 131)), (1, .ref (ad 1073)), (2, ii 0), (3, ii 0)]) rfl ?_
      suffices key39 : ∀ (n : Nat) (y16 : Int) (y17 : Int), 0 ≤ y16 → y16 ≤ 0 → 0 ≤ y17 → y17 ≤ 0 → (y16 = 1 → M 131 12 = 0 ∧ M 131 10 = 1 ∧ M 131 8 - M 131 9 = 3) → 0 < (n : Int) → Z D cy ad p l e (RMh 5) s m args below meth c A 4 0 0 Q 39 [(0, .ref (ad 131)), (1, .ref (ad 1073)), (2, ii y16), (3, ii y17)] [] M from key39 1 0 0 (by omega) (by omega) (by omega) (by omega) (by omega) (by omega)
      intro n39
      induction n39 with
      | zero => intro y16 y17 ay16 by16 ay17 by17 i39_0 hn39; exfalso; omega
      | succ n39 ih39 =>
        intro y16 y17 ay16 by16 ay17 by17 i39_0 hn39
        refine z_iload_n F dX12_isWord_39 rfl (q := 2) rfl ?_
        refine z_if_eq (tgt := 82) F dX12_isWord_40 (by decide +kernel) (by omega) (fun c18 => ?_) (fun c18 => by exfalso; omega)
        refine z_iload_n F dX12_isWord_82 rfl (q := 2) rfl ?_
        exact hret _ _ 83 _ ⟨by omega, by omega⟩ ⟨hI, hW⟩ ⟨⟨by omega, by omega⟩, rfl, (by omega)⟩ dX12_isWord_83
    · refine z_aload_n F dX12_isWord_15 rfl (q := 0) rfl ?_
      refine gf_X12_82 F hI gs_131 rfl bd_131_8 dX12_isWord_16 (fun v19 ev19 av19 bv19 => ?_)
      have zv19 : u2 = v19 := eu2.trans ev19.symm
      subst zv19
      refine z_aload_n F dX12_isWord_19 rfl (q := 0) rfl ?_
      refine gf_X12_85 F hI gs_131 rfl bd_131_9 dX12_isWord_20 (fun v20 ev20 av20 bv20 => ?_)
      have zv20 : u3 = v20 := eu3.trans ev20.symm
      subst zv20
      refine z_isub F dX12_isWord_23 ?_
      refine z_aload_n F dX12_isWord_24 rfl (q := 1) rfl ?_
      refine zvs_i (i := 73) (rest := [ii (u2 - u3)]) F (kS_len l M ⟨hI, hW⟩ 73 (by decide)) cs_X12_114 (by decide) (by decide) (by decide) rfl rfl rfl (Nat.le_of_ble_eq_true rfl) dX12_isWord_25 (fun v21 M9 rv21 hI9 pv21 => ?_)
      obtain ⟨ev21, rfl⟩ := pv21
      obtain rfl : v21 = 3 := ev21.trans (show ((sbyt.getD 73 []).length : Int) = 3 from by decide)
      clear hI9
      refine z_icmp_ne (tgt := 35) F dX12_isWord_28 (by decide +kernel) (by omega) (by omega) (fun c22 => ?_) (fun c22 => ?_)
      · refine z_iconst F dX12_isWord_35 ?_
        refine z_istore_n F dX12_isWord_36 rfl (by decide) (ls' := [(2, ii 0), (0, .ref (ad 131)), (1, .ref (ad 1073))]) rfl ?_
        refine z_iconst F dX12_isWord_37 ?_
        refine z_istore_n F dX12_isWord_38 rfl (by decide) (ls' := [(3, ii 0), (2, ii 0), (0, .ref (ad 131)), (1, .ref (ad 1073))]) rfl ?_
        refine z_loc [2, 3, 1, 0] (ls' := [(0, .ref (ad 131)), (1, .ref (ad 1073)), (2, ii 0), (3, ii 0)]) rfl ?_
        suffices key39 : ∀ (n : Nat) (y24 : Int) (y25 : Int), 0 ≤ y24 → y24 ≤ 0 → 0 ≤ y25 → y25 ≤ 0 → (y24 = 1 → M 131 12 = 0 ∧ M 131 10 = 1 ∧ M 131 8 - M 131 9 = 3) → 0 < (n : Int) → Z D cy ad p l e (RMh 5) s m args below meth c A 4 0 0 Q 39 [(0, .ref (ad 131)), (1, .ref (ad 1073)), (2, ii y24), (3, ii y25)] [] M from key39 1 0 0 (by omega) (by omega) (by omega) (by omega) (by omega) (by omega)
        intro n39
        induction n39 with
        | zero => intro y24 y25 ay24 by24 ay25 by25 i39_0 hn39; exfalso; omega
        | succ n39 ih39 =>
          intro y24 y25 ay24 by24 ay25 by25 i39_0 hn39
          refine z_iload_n F dX12_isWord_39 rfl (q := 2) rfl ?_
          refine z_if_eq (tgt := 82) F dX12_isWord_40 (by decide +kernel) (by omega) (fun c26 => ?_) (fun c26 => by exfalso; omega)
          refine z_iload_n F dX12_isWord_82 rfl (q := 2) rfl ?_
          exact hret _ _ 83 _ ⟨by omega, by omega⟩ ⟨hI, hW⟩ ⟨⟨by omega, by omega⟩, rfl, (by omega)⟩ dX12_isWord_83
      · refine z_iconst F dX12_isWord_31 ?_
        refine z_goto (tgt := 36) F dX12_isWord_32 (by decide +kernel) ?_
        refine z_istore_n F dX12_isWord_36 rfl (by decide) (ls' := [(2, ii 1), (0, .ref (ad 131)), (1, .ref (ad 1073))]) rfl ?_
        refine z_iconst F dX12_isWord_37 ?_
        refine z_istore_n F dX12_isWord_38 rfl (by decide) (ls' := [(3, ii 0), (2, ii 1), (0, .ref (ad 131)), (1, .ref (ad 1073))]) rfl ?_
        refine z_loc [2, 3, 1, 0] (ls' := [(0, .ref (ad 131)), (1, .ref (ad 1073)), (2, ii 1), (3, ii 0)]) rfl ?_
        suffices key39 : ∀ (n : Nat) (y28 : Int) (y29 : Int), 0 ≤ y28 → y28 ≤ 1 → 0 ≤ y29 → y29 ≤ 3 → (y28 = 1 → M 131 12 = 0 ∧ M 131 10 = 1 ∧ M 131 8 - M 131 9 = 3) → 3 - y29 < (n : Int) → Z D cy ad p l e (RMh 5) s m args below meth c A 4 0 0 Q 39 [(0, .ref (ad 131)), (1, .ref (ad 1073)), (2, ii y28), (3, ii y29)] [] M from key39 4 1 0 (by omega) (by omega) (by omega) (by omega) (by omega) (by omega)
        intro n39
        induction n39 with
        | zero => intro y28 y29 ay28 by28 ay29 by29 i39_0 hn39; exfalso; omega
        | succ n39 ih39 =>
          intro y28 y29 ay28 by28 ay29 by29 i39_0 hn39
          refine z_iload_n F dX12_isWord_39 rfl (q := 2) rfl ?_
          refine z_if_eq (tgt := 82) F dX12_isWord_40 (by decide +kernel) (by omega) (fun c30 => ?_) (fun c30 => ?_)
          · refine z_iload_n F dX12_isWord_82 rfl (q := 2) rfl ?_
            exact hret _ _ 83 _ ⟨by omega, by omega⟩ ⟨hI, hW⟩ ⟨⟨by omega, by omega⟩, rfl, (by omega)⟩ dX12_isWord_83
          · refine z_iload_n F dX12_isWord_43 rfl (q := 3) rfl ?_
            refine z_aload_n F dX12_isWord_44 rfl (q := 1) rfl ?_
            refine zvs_i (i := 73) (rest := [ii y29]) F (kS_len l M ⟨hI, hW⟩ 73 (by decide)) cs_X12_114 (by decide) (by decide) (by decide) rfl rfl rfl (Nat.le_of_ble_eq_true rfl) dX12_isWord_45 (fun v31 M9 rv31 hI9 pv31 => ?_)
            obtain ⟨ev31, rfl⟩ := pv31
            obtain rfl : v31 = 3 := ev31.trans (show ((sbyt.getD 73 []).length : Int) = 3 from by decide)
            clear hI9
            refine z_icmp_ge (tgt := 82) F dX12_isWord_48 (by decide +kernel) (by omega) (by omega) (fun c32 => ?_) (fun c32 => ?_)
            · refine z_iload_n F dX12_isWord_82 rfl (q := 2) rfl ?_
              exact hret _ _ 83 _ ⟨by omega, by omega⟩ ⟨hI, hW⟩ ⟨⟨by omega, by omega⟩, rfl, (by omega)⟩ dX12_isWord_83
            · refine z_aload_n F dX12_isWord_51 rfl (q := 0) rfl ?_
              refine rf_X12_23 F gs_131 rfl dX12_isWord_52 ?_
              refine z_aload_n F dX12_isWord_55 rfl (q := 0) rfl ?_
              refine gf_X12_85 F hI gs_131 rfl bd_131_9 dX12_isWord_56 (fun v33 ev33 av33 bv33 => ?_)
              have zv33 : u3 = v33 := eu3.trans ev33.symm
              subst zv33
              refine z_iload_n F dX12_isWord_59 rfl (q := 3) rfl ?_
              refine z_iadd F dX12_isWord_60 ?_
              have k34 : 0 ≤ (u3 + y29) ∧ (u3 + y29) ≤ 899 := by omega
              refine z_iald F hI gs_136 (by omega) (by omega) (by decide) bd_136 dX12_isWord_61 (fun v35 (ev35 : v35 = M 136 _) av35 bv35 => ?_)
              refine z_aload_n F dX12_isWord_62 rfl (q := 1) rfl ?_
              refine z_iload_n F dX12_isWord_63 rfl (q := 3) rfl ?_
              refine zvs_i (i := 73) (rest := [ii v35]) F (kS_chr l M ⟨hI, hW⟩ 73 (by decide) y29 (by omega) (show y29 < ((sbyt.getD 73 []).length : Int) from by rw [show ((sbyt.getD 73 []).length : Int) = 3 from by decide]; omega)) cs_X12_119 (by decide) (by decide) (by decide) rfl rfl rfl (Nat.le_of_ble_eq_true rfl) dX12_isWord_64 (fun v36 M9 rv36 hI9 pv36 => ?_)
              obtain ⟨⟨av36, bv36⟩, rfl⟩ := pv36
              clear hI9
              refine z_icmp_ne (tgt := 74) F dX12_isWord_67 (by decide +kernel) (by omega) (by omega) (fun c37 => ?_) (fun c37 => ?_)
              · refine z_iconst F dX12_isWord_74 ?_
                refine z_istore_n F dX12_isWord_75 rfl (by decide) (ls' := [(2, ii 0), (0, .ref (ad 131)), (1, .ref (ad 1073)), (3, ii y29)]) rfl ?_
                refine z_iincN F dX12_isWord_76 (q := 3) rfl (by decide) (fun v38 ev38 => ?_)
                refine z_eq (ls' := [(3, ii v38), (2, ii 0), (0, .ref (ad 131)), (1, .ref (ad 1073))]) rfl rfl rfl ?_
                refine z_goto (tgt := 39) F dX12_isWord_79 (by decide +kernel) ?_
                refine z_loc [2, 3, 1, 0] (ls' := [(0, .ref (ad 131)), (1, .ref (ad 1073)), (2, ii 0), (3, ii v38)]) rfl ?_
                exact ih39 0 v38 (by omega) (by omega) (by omega) (by omega) (by omega) (by omega)
              · refine z_iconst F dX12_isWord_70 ?_
                refine z_goto (tgt := 75) F dX12_isWord_71 (by decide +kernel) ?_
                refine z_istore_n F dX12_isWord_75 rfl (by decide) (ls' := [(2, ii 1), (0, .ref (ad 131)), (1, .ref (ad 1073)), (3, ii y29)]) rfl ?_
                refine z_iincN F dX12_isWord_76 (q := 3) rfl (by decide) (fun v39 ev39 => ?_)
                refine z_eq (ls' := [(3, ii v39), (2, ii 1), (0, .ref (ad 131)), (1, .ref (ad 1073))]) rfl rfl rfl ?_
                refine z_goto (tgt := 39) F dX12_isWord_79 (by decide +kernel) ?_
                refine z_loc [2, 3, 1, 0] (ls' := [(0, .ref (ad 131)), (1, .ref (ad 1073)), (2, ii 1), (3, ii v39)]) rfl ?_
                exact ih39 1 v39 (by omega) (by omega) (by omega) (by omega) (by omega) (by omega)
set_option maxHeartbeats 4000000 in
set_option maxRecDepth 4000 in
theorem kp_X12_took_131_1073 (l : Launch) (M : Mem) (hJ : Iw M) (hp0 : 0 ≤ M 131 9 ∧ M 131 9 ≤ M 131 8 ∧ M 131 8 ≤ M 131 7 ∧ M 131 7 ≤ 900 ∧ (M 131 10 = 0 ∨ M 131 9 < M 131 8)) : CI l yX12_took cX12_took 3 (some .boolean) 6 (fun ad => [.ref (ad 131), .ref (ad 1073)]) M (fun z M' => (0 ≤ z ∧ z ≤ 1) ∧ Fr [131] M M' ∧ (M' 131 7 = M 131 7 ∧ M' 131 16 = M 131 16 ∧ M 131 9 ≤ M' 131 9 ∧ 0 ≤ M' 131 9 ∧ M' 131 9 ≤ M' 131 8 ∧ M' 131 8 ≤ M' 131 7 ∧ M' 131 7 ≤ 900 ∧ (M' 131 10 = 0 ∨ M' 131 9 < M' 131 8) ∧ M' 131 12 = M 131 12 ∧ (z = 1 → M 131 12 = 0 ∧ M 131 9 < M' 131 9))) := by
  obtain ⟨hI, hW⟩ := hJ
  have hF : Fr [131] M M := Fr.rf
  refine en_z (by decide +kernel) (fun ad => by exact Nat.le_of_ble_eq_true rfl) (fun D cy ad A p e s m args below meth c Q F hret => ?_)
  refine z_eq (ls' := [(0, .ref (ad 131)), (1, .ref (ad 1073))]) rfl rfl rfl ?_
  refine z_aload_n F dX12_took_0 rfl (q := 0) rfl ?_
  refine z_aload_n F dX12_took_1 rfl (q := 1) rfl ?_
  refine zv_i (rest := []) F (kp_X12_isWord_131_1073 l M ⟨hI, hW⟩ (by omega)) cs_X12_123 (T := TX12) (N := 44) (ci := 12) rfl gs_131 (by decide) (by decide) rfl rfl rfl (Nat.le_of_ble_eq_true rfl) dX12_took_2 (fun v1 M2 rv1 hI p3 => ?_)
  obtain ⟨hI, hW⟩ := hI
  obtain ⟨⟨av1, bv1⟩, rfl, xp3⟩ := p3
  refine z_istore_n F dX12_took_5 rfl (by decide) (ls' := [(2, ii v1), (0, .ref (ad 131)), (1, .ref (ad 1073))]) rfl ?_
  refine z_iload_n F dX12_took_6 rfl (q := 0) rfl ?_
  refine z_if_eq (tgt := 14) F dX12_took_7 (by decide +kernel) (by omega) (fun c4 => ?_) (fun c4 => ?_)
  · refine z_iload_n F dX12_took_14 rfl (q := 0) rfl ?_
    exact hret _ _ 15 _ ⟨by omega, by omega⟩ ⟨hI, hW⟩ ⟨⟨by omega, by omega⟩, hF, (by omega)⟩ dX12_took_15
  · refine z_aload_n F dX12_took_10 rfl (q := 1) rfl ?_
    refine zv_v (rest := []) F (kp_X12_readsOn l M ⟨hI, hW⟩ (by omega)) cs_X12_127 (T := TX12) (N := 44) (ci := 12) rfl gs_131 (by decide) (by decide) rfl rfl rfl (Nat.le_of_ble_eq_true rfl) dX12_took_11 (fun M5 hI p6 => ?_)
    obtain ⟨hI, hW⟩ := hI
    obtain ⟨fp6, xp6⟩ := p6
    have hF := hF.call fp6 (by decide)
    have tM5_133_6 : M5 133 6 = M 133 6 := fp6.at (by decide)
    have tM5_133_1 : M5 133 1 = M 133 1 := fp6.at (by decide)
    refine z_iload_n F dX12_took_14 rfl (q := 0) rfl ?_
    exact hret _ _ 15 _ ⟨by omega, by omega⟩ ⟨hI, hW⟩ ⟨⟨by omega, by omega⟩, hF, (by omega)⟩ dX12_took_15
set_option maxHeartbeats 4000000 in
set_option maxRecDepth 4000 in
theorem kp_X12_readStop (l : Launch) (M : Mem) (hJ : Iw M) (hp0 : 0 ≤ M 131 9 ∧ M 131 9 ≤ M 131 8 ∧ M 131 8 ≤ M 131 7 ∧ M 131 7 ≤ 900 ∧ (M 131 10 = 0 ∨ M 131 9 < M 131 8)) (hp1 : M 133 6 ≤ M 131 9) (hp2 : Wl M) (hp3 : M 131 16 = 0) : CV l yX12_readStop cX12_readStop 1 none 4 (fun ad => [.ref (ad 131)]) M (fun M' => Fr [131, 133] M M' ∧ (Wl M' ∧ M' 131 7 = M 131 7 ∧ M' 131 16 = M 131 16 ∧ M 131 9 ≤ M' 131 9 ∧ 0 ≤ M' 131 9 ∧ M' 131 9 ≤ M' 131 8 ∧ M' 131 8 ≤ M' 131 7 ∧ M' 131 7 ≤ 900 ∧ (M' 131 10 = 0 ∨ M' 131 9 < M' 131 8) ∧ M' 133 6 = M 133 6 ∧ M' 133 1 = M 133 1 ∧ (M' 131 12 = 0 → M 131 12 = 0 ∧ M 131 9 < M' 131 9))) := by
  obtain ⟨hI, hW⟩ := hJ
  have hF : Fr [131, 133] M M := Fr.rf
  refine en_v (by decide +kernel) (fun ad => by exact Nat.le_of_ble_eq_true rfl) (fun D cy ad A p e s m args below meth c Q F hret => ?_)
  refine z_eq (ls' := [(0, .ref (ad 131))]) rfl rfl rfl ?_
  have hL := hp2
  obtain ⟨g1, g2, g3, g4, hT⟩ := hp0
  have hT : Tk M := hT
  have kbM : 0 ≤ M 131 12 ∧ M 131 12 ≤ 4 := hI.at (show Bd 131 12 = (0, 4) from rfl)
  refine z_aload_n F dX12_readStop_0 rfl (q := 0) rfl ?_
  refine z_bipush F dX12_readStop_1 (by decide +kernel) ?_
  refine zv_v (rest := []) F (kp_X12_mustSign l M ⟨hI, hW⟩ 59 (by omega) (by omega) ⟨by omega, by omega, by omega, by omega, hT⟩) cs_X12_168 (T := TX12) (N := 44) (ci := 12) rfl gs_131 (by decide) (by decide) rfl rfl rfl (Nat.le_of_ble_eq_true rfl) dX12_readStop_3 (fun M1 hI p2 => ?_)
  obtain ⟨hI, hW⟩ := hI
  obtain ⟨fp2, xp2⟩ := p2
  have hF := hF.call fp2 (by decide)
  have tM1_133_6 : M1 133 6 = M 133 6 := fp2.at (by decide)
  have tM1_133_1 : M1 133 1 = M 133 1 := fp2.at (by decide)
  have tM1_133_2 : M1 133 2 = M 133 2 := fp2.at (by decide)
  have tM1_133_4 : M1 133 4 = M 133 4 := fp2.at (by decide)
  have hq9 := wl_fr fp2 (by decide)
  have hL := hq9.2 hL
  have cM1 := hq9.1
  clear hq9
  obtain ⟨qp2_0, qp2_1, qp2_2, qp2_3, qp2_4, qp2_5, qp2_6, qp2_7, qp2_8⟩ := xp2
  have kbM1 : 0 ≤ M1 131 12 ∧ M1 131 12 ≤ 4 := hI.at (show Bd 131 12 = (0, 4) from rfl)
  have hT : Tk M1 := qp2_7
  clear qp2_7
  have lbqp2_8 : M 131 12 ≤ 4 * M1 131 12 := by omega
  have lpqp2_8 : M 131 9 + 1 ≤ M1 131 9 + M1 131 12 := by omega
  clear qp2_8
  refine z_aload_n F dX12_readStop_6 rfl (q := 0) rfl ?_
  refine gf_X12_108 F hI gs_131 rfl bd_131_12 dX12_readStop_7 (fun v3 ev3 av3 bv3 => ?_)
  refine z_if_ne (tgt := 23) F dX12_readStop_10 (by decide +kernel) (by omega) (fun c4 => ?_) (fun c4 => ?_)
  · exact hret _ 23 _ ⟨hI, hW⟩ ⟨hF, ⟨hL, by omega, by omega, by omega, by omega, by omega, by omega, by omega, hT, by omega, by omega, by omega⟩⟩ dX12_readStop_23
  · refine z_aload_n F dX12_readStop_13 rfl (q := 0) rfl ?_
    refine rf_X12_13 F gs_131 rfl dX12_readStop_14 ?_
    refine z_iconst F dX12_readStop_17 ?_
    refine z_dup2 F dX12_readStop_18 rfl rfl ?_
    refine z_iald F hI gs_133 (by omega) (by omega) (by decide) (show Bd 133 0 = (-2147483648, 2147483647) from rfl) dX12_readStop_19 (fun v5 (ev5 : v5 = M1 133 0) av5 bv5 => ?_)
    refine z_iconst F dX12_readStop_20 ?_
    refine z_iadd F dX12_readStop_21 ?_
    refine z_wrap (fun v6 rv6 wv6 => ?_)
    refine z_iast F hI gs_133 (by omega) (by omega) (by decide) (show Bd 133 0 = (-2147483648, 2147483647) from rfl) dX12_readStop_22 (by omega) (by omega) (fun M8 hI sf7 f7 => ?_)
    have tM8_131_7 : M8 131 7 = M1 131 7 := f7 131 7 (fun q => absurd q.1 (by decide))
    have tM8_131_8 : M8 131 8 = M1 131 8 := f7 131 8 (fun q => absurd q.1 (by decide))
    have tM8_131_9 : M8 131 9 = M1 131 9 := f7 131 9 (fun q => absurd q.1 (by decide))
    have tM8_131_10 : M8 131 10 = M1 131 10 := f7 131 10 (fun q => absurd q.1 (by decide))
    have tM8_131_12 : M8 131 12 = M1 131 12 := f7 131 12 (fun q => absurd q.1 (by decide))
    have tM8_131_16 : M8 131 16 = M1 131 16 := f7 131 16 (fun q => absurd q.1 (by decide))
    have tM8_133_6 : M8 133 6 = M1 133 6 := f7 133 6 (fun q => absurd q.2 (by decide))
    have tM8_133_1 : M8 133 1 = M1 133 1 := f7 133 1 (fun q => absurd q.2 (by decide))
    have tM8_133_2 : M8 133 2 = M1 133 2 := f7 133 2 (fun q => absurd q.2 (by decide))
    have tM8_133_4 : M8 133 4 = M1 133 4 := f7 133 4 (fun q => absurd q.2 (by decide))
    have hT := tk_ws f7 (by decide) hT
    have hq9 := wl_wr f7 (by omega)
    have hL := hq9.2 hL
    have cM8 := hq9.1
    clear hq9
    have hF := hF.wr f7 (by decide) (by decide)
    have hW : WFk M8 := hW.site f7 (by decide)
    have sf7 : M8 133 0 = v6 := sf7
    exact hret _ 23 _ ⟨hI, hW⟩ ⟨hF, ⟨hL, by omega, by omega, by omega, by omega, by omega, by omega, by omega, hT, by omega, by omega, by omega⟩⟩ dX12_readStop_23
set_option maxHeartbeats 4000000 in
set_option maxRecDepth 4000 in
theorem kp_X12_readLine (l : Launch) (M : Mem) (hJ : Iw M) (hp0 : 0 ≤ M 131 9 ∧ M 131 9 ≤ M 131 8 ∧ M 131 8 ≤ M 131 7 ∧ M 131 7 ≤ 900 ∧ (M 131 10 = 0 ∨ M 131 9 < M 131 8)) (hp1 : M 133 6 ≤ M 131 9) (hp2 : Wl M) (hp3 : M 131 16 = 0) : CV l yX12_readLine cX12_readLine 1 none 86 (fun ad => [.ref (ad 131)]) M (fun M' => Fr [131, 133] M M' ∧ (Wl M' ∧ M' 131 7 = M 131 7 ∧ M' 131 16 = M 131 16 ∧ M 131 9 ≤ M' 131 9 ∧ 0 ≤ M' 131 9 ∧ M' 131 9 ≤ M' 131 8 ∧ M' 131 8 ≤ M' 131 7 ∧ M' 131 7 ≤ 900 ∧ (M' 131 10 = 0 ∨ M' 131 9 < M' 131 8) ∧ M' 133 6 ≤ M' 131 9 ∧ M' 133 1 = M 133 1 ∧ (M' 131 12 = 0 → M 131 12 = 0 ∧ M 131 9 < M' 131 9))) := by
  obtain ⟨hI, hW⟩ := hJ
  have hF : Fr [131, 133] M M := Fr.rf
  refine en_v (by decide +kernel) (fun ad => by exact Nat.le_of_ble_eq_true rfl) (fun D cy ad A p e s m args below meth c Q F hret => ?_)
  refine z_eq (ls' := [(0, .ref (ad 131))]) rfl rfl rfl ?_
  have hL := hp2
  obtain ⟨g1, g2, g3, g4, hT⟩ := hp0
  have hT : Tk M := hT
  have kbM : 0 ≤ M 131 12 ∧ M 131 12 ≤ 4 := hI.at (show Bd 131 12 = (0, 4) from rfl)
  refine z_aload_n F dX12_readLine_0 rfl (q := 0) rfl ?_
  refine z_ldcS (j := 58) F dX12_readLine_1 rfl rfl rfl ?_
  refine z_eq (st' := [.ref (ad 1058), .ref (ad 131)]) rfl rfl rfl ?_
  refine zv_i (rest := []) F (kp_X12_isWord_131_1058 l M ⟨hI, hW⟩ ⟨by omega, by omega, by omega, by omega, hT⟩) cs_X12_123 (T := TX12) (N := 44) (ci := 12) rfl gs_131 (by decide) (by decide) rfl rfl rfl (Nat.le_of_ble_eq_true rfl) dX12_readLine_3 (fun v1 M2 rv1 hI p3 => ?_)
  obtain ⟨hI, hW⟩ := hI
  obtain ⟨⟨av1, bv1⟩, rfl, xp3⟩ := p3
  clear xp3
  refine z_if_eq (tgt := 16) F dX12_readLine_6 (by decide +kernel) (by omega) (fun c4 => ?_) (fun c4 => ?_)
  · refine z_aload_n F dX12_readLine_16 rfl (q := 0) rfl ?_
    refine z_ldcS (j := 60) F dX12_readLine_17 rfl rfl rfl ?_
    refine z_eq (st' := [.ref (ad 1060), .ref (ad 131)]) rfl rfl rfl ?_
    refine zv_i (rest := []) F (kp_X12_isWord_131_1060 l M ⟨hI, hW⟩ ⟨by omega, by omega, by omega, by omega, hT⟩) cs_X12_123 (T := TX12) (N := 44) (ci := 12) rfl gs_131 (by decide) (by decide) rfl rfl rfl (Nat.le_of_ble_eq_true rfl) dX12_readLine_19 (fun v5 M6 rv5 hI p7 => ?_)
    obtain ⟨hI, hW⟩ := hI
    obtain ⟨⟨av5, bv5⟩, rfl, xp7⟩ := p7
    clear xp7
    refine z_if_eq (tgt := 32) F dX12_readLine_22 (by decide +kernel) (by omega) (fun c8 => ?_) (fun c8 => ?_)
    · refine z_aload_n F dX12_readLine_32 rfl (q := 0) rfl ?_
      refine z_ldcS (j := 65) F dX12_readLine_33 rfl rfl rfl ?_
      refine z_eq (st' := [.ref (ad 1065), .ref (ad 131)]) rfl rfl rfl ?_
      refine zv_i (rest := []) F (kp_X12_isWord_131_1065 l M ⟨hI, hW⟩ ⟨by omega, by omega, by omega, by omega, hT⟩) cs_X12_123 (T := TX12) (N := 44) (ci := 12) rfl gs_131 (by decide) (by decide) rfl rfl rfl (Nat.le_of_ble_eq_true rfl) dX12_readLine_35 (fun v9 M10 rv9 hI p11 => ?_)
      obtain ⟨hI, hW⟩ := hI
      obtain ⟨⟨av9, bv9⟩, rfl, xp11⟩ := p11
      clear xp11
      refine z_if_eq (tgt := 48) F dX12_readLine_38 (by decide +kernel) (by omega) (fun c12 => ?_) (fun c12 => ?_)
      · refine z_aload_n F dX12_readLine_48 rfl (q := 0) rfl ?_
        refine z_ldcS (j := 68) F dX12_readLine_49 rfl rfl rfl ?_
        refine z_eq (st' := [.ref (ad 1068), .ref (ad 131)]) rfl rfl rfl ?_
        refine zv_i (rest := []) F (kp_X12_took_131_1068 l M ⟨hI, hW⟩ ⟨by omega, by omega, by omega, by omega, hT⟩) cs_X12_130 (T := TX12) (N := 44) (ci := 12) rfl gs_131 (by decide) (by decide) rfl rfl rfl (Nat.le_of_ble_eq_true rfl) dX12_readLine_51 (fun v13 M14 rv13 hI p15 => ?_)
        obtain ⟨hI, hW⟩ := hI
        obtain ⟨⟨av13, bv13⟩, fp15, xp15⟩ := p15
        have hF := hF.call fp15 (by decide)
        have tM14_133_6 : M14 133 6 = M 133 6 := fp15.at (by decide)
        have tM14_133_1 : M14 133 1 = M 133 1 := fp15.at (by decide)
        have tM14_133_2 : M14 133 2 = M 133 2 := fp15.at (by decide)
        have tM14_133_4 : M14 133 4 = M 133 4 := fp15.at (by decide)
        have hq9 := wl_fr fp15 (by decide)
        have hL := hq9.2 hL
        have cM14 := hq9.1
        clear hq9
        obtain ⟨qp15_0, qp15_1, qp15_2, qp15_3, qp15_4, qp15_5, qp15_6, qp15_7, qp15_8, qp15_9⟩ := xp15
        have kbM14 : 0 ≤ M14 131 12 ∧ M14 131 12 ≤ 4 := hI.at (show Bd 131 12 = (0, 4) from rfl)
        have hT : Tk M14 := qp15_7
        clear qp15_7
        have lzqp15_9 : M 131 9 + v13 ≤ M14 131 9 := by omega
        clear qp15_9
        refine z_if_eq (tgt := 64) F dX12_readLine_54 (by decide +kernel) (by omega) (fun c16 => ?_) (fun c16 => ?_)
        · refine z_aload_n F dX12_readLine_64 rfl (q := 0) rfl ?_
          refine z_ldcSW (j := 73) F dX12_readLine_65 rfl rfl rfl ?_
          refine z_eq (st' := [.ref (ad 1073), .ref (ad 131)]) rfl rfl rfl ?_
          refine zv_i (rest := []) F (kp_X12_took_131_1073 l M14 ⟨hI, hW⟩ ⟨by omega, by omega, by omega, by omega, hT⟩) cs_X12_130 (T := TX12) (N := 44) (ci := 12) rfl gs_131 (by decide) (by decide) rfl rfl rfl (Nat.le_of_ble_eq_true rfl) dX12_readLine_68 (fun v17 M18 rv17 hI p19 => ?_)
          obtain ⟨hI, hW⟩ := hI
          obtain ⟨⟨av17, bv17⟩, fp19, xp19⟩ := p19
          have hF := hF.call fp19 (by decide)
          have tM18_133_6 : M18 133 6 = M14 133 6 := fp19.at (by decide)
          have tM18_133_1 : M18 133 1 = M14 133 1 := fp19.at (by decide)
          have tM18_133_2 : M18 133 2 = M14 133 2 := fp19.at (by decide)
          have tM18_133_4 : M18 133 4 = M14 133 4 := fp19.at (by decide)
          have hq9 := wl_fr fp19 (by decide)
          have hL := hq9.2 hL
          have cM18 := hq9.1
          clear hq9
          obtain ⟨qp19_0, qp19_1, qp19_2, qp19_3, qp19_4, qp19_5, qp19_6, qp19_7, qp19_8, qp19_9⟩ := xp19
          have kbM18 : 0 ≤ M18 131 12 ∧ M18 131 12 ≤ 4 := hI.at (show Bd 131 12 = (0, 4) from rfl)
          have hT : Tk M18 := qp19_7
          clear qp19_7
          have lzqp19_9 : M14 131 9 + v17 ≤ M18 131 9 := by omega
          clear qp19_9
          refine z_if_eq (tgt := 89) F dX12_readLine_71 (by decide +kernel) (by omega) (fun c20 => ?_) (fun c20 => ?_)
          · refine z_aload_n F dX12_readLine_89 rfl (q := 0) rfl ?_
            refine z_iconst F dX12_readLine_90 ?_
            refine zv_v (rest := []) F (kp_X12_blames l M18 ⟨hI, hW⟩ 2 (by omega) (by omega)) cs_X12_133 (T := TX12) (N := 44) (ci := 12) rfl gs_131 (by decide) (by decide) rfl rfl rfl (Nat.le_of_ble_eq_true rfl) dX12_readLine_91 (fun M21 hI p22 => ?_)
            obtain ⟨hI, hW⟩ := hI
            obtain ⟨fp22, xp22⟩ := p22
            have hF := hF.call fp22 (by decide)
            have tM21_133_6 : M21 133 6 = M18 133 6 := fp22.at (by decide)
            have tM21_133_1 : M21 133 1 = M18 133 1 := fp22.at (by decide)
            have tM21_133_2 : M21 133 2 = M18 133 2 := fp22.at (by decide)
            have tM21_133_4 : M21 133 4 = M18 133 4 := fp22.at (by decide)
            have hq9 := wl_fr fp22 (by decide)
            have hL := hq9.2 hL
            have cM21 := hq9.1
            clear hq9
            obtain ⟨qp22_0, qp22_1, qp22_2, qp22_3, qp22_4, qp22_5⟩ := xp22
            have kbM21 : 0 ≤ M21 131 12 ∧ M21 131 12 ≤ 4 := hI.at (show Bd 131 12 = (0, 4) from rfl)
            have hT := tk_eq hT qp22_2 qp22_3 qp22_4
            refine z_aload_n F dX12_readLine_94 rfl (q := 0) rfl ?_
            refine zv_v (rest := []) F (kp_X12_readStop l M21 ⟨hI, hW⟩ ⟨by omega, by omega, by omega, by omega, hT⟩ (by omega) hL (by omega)) cs_X12_259 (T := TX12) (N := 44) (ci := 12) rfl gs_131 (by decide) (by decide) rfl rfl rfl (Nat.le_of_ble_eq_true rfl) dX12_readLine_95 (fun M23 hI p24 => ?_)
            obtain ⟨hI, hW⟩ := hI
            obtain ⟨fp24, xp24⟩ := p24
            have hF := hF.call fp24 (by decide)
            obtain ⟨hL, xp24⟩ := xp24
            obtain ⟨qp24_0, qp24_1, qp24_2, qp24_3, qp24_4, qp24_5, qp24_6, qp24_7, qp24_8, qp24_9, qp24_10⟩ := xp24
            have kbM23 : 0 ≤ M23 131 12 ∧ M23 131 12 ≤ 4 := hI.at (show Bd 131 12 = (0, 4) from rfl)
            have hT : Tk M23 := qp24_7
            clear qp24_7
            have lbqp24_10 : M21 131 12 ≤ 4 * M23 131 12 := by omega
            have lpqp24_10 : M21 131 9 + 1 ≤ M23 131 9 + M23 131 12 := by omega
            clear qp24_10
            exact hret _ 98 _ ⟨hI, hW⟩ ⟨hF, ⟨hL, by omega, by omega, by omega, by omega, by omega, by omega, by omega, hT, by omega, by omega, by omega⟩⟩ dX12_readLine_98
          · refine z_aload_n F dX12_readLine_74 rfl (q := 0) rfl ?_
            refine rf_X12_13 F gs_131 rfl dX12_readLine_75 ?_
            refine z_bipush F dX12_readLine_78 (by decide +kernel) ?_
            refine z_iconst F dX12_readLine_80 ?_
            refine z_iast F hI gs_133 (by omega) (by omega) (by decide) (show Bd 133 6 = (0, 900) from rfl) dX12_readLine_81 (by omega) (by omega) (fun M26 hI sf25 f25 => ?_)
            have tM26_131_7 : M26 131 7 = M18 131 7 := f25 131 7 (fun q => absurd q.1 (by decide))
            have tM26_131_8 : M26 131 8 = M18 131 8 := f25 131 8 (fun q => absurd q.1 (by decide))
            have tM26_131_9 : M26 131 9 = M18 131 9 := f25 131 9 (fun q => absurd q.1 (by decide))
            have tM26_131_10 : M26 131 10 = M18 131 10 := f25 131 10 (fun q => absurd q.1 (by decide))
            have tM26_131_12 : M26 131 12 = M18 131 12 := f25 131 12 (fun q => absurd q.1 (by decide))
            have tM26_131_16 : M26 131 16 = M18 131 16 := f25 131 16 (fun q => absurd q.1 (by decide))
            have tM26_133_1 : M26 133 1 = M18 133 1 := f25 133 1 (fun q => absurd q.2 (by decide))
            have tM26_133_2 : M26 133 2 = M18 133 2 := f25 133 2 (fun q => absurd q.2 (by decide))
            have tM26_133_4 : M26 133 4 = M18 133 4 := f25 133 4 (fun q => absurd q.2 (by decide))
            have hT := tk_ws f25 (by decide) hT
            have hq9 := wl_zero (show M26 133 6 = 0 from sf25)
            have hL := hq9.2
            have cM26 := hq9.1
            clear hq9
            have hF := hF.wr f25 (by decide) (by decide)
            have hW : WFk M26 := hW.site f25 (by decide)
            have sf25 : M26 133 6 = 0 := sf25
            refine z_aload_n F dX12_readLine_82 rfl (q := 0) rfl ?_
            refine zv_v (rest := []) F ((RdR_all l 71).1 M26 ⟨hI, hW⟩ ⟨by omega, by omega, by omega, by omega, hT⟩ (by omega) (by omega) (by omega) hL (by omega)) cs_X12_165 (T := TX12) (N := 44) (ci := 12) rfl gs_131 (by decide) (by decide) rfl rfl rfl (Nat.le_of_ble_eq_true rfl) dX12_readLine_83 (fun M27 hI p28 => ?_)
            obtain ⟨hI, hW⟩ := hI
            obtain ⟨fp28, xp28⟩ := p28
            have hF := hF.call fp28 (by decide)
            obtain ⟨hL, xp28⟩ := xp28
            obtain ⟨qp28_0, qp28_1, qp28_2, qp28_3, qp28_4, qp28_5, qp28_6, qp28_7, qp28_8, qp28_9, qp28_10⟩ := xp28
            have kbM27 : 0 ≤ M27 131 12 ∧ M27 131 12 ≤ 4 := hI.at (show Bd 131 12 = (0, 4) from rfl)
            have hT : Tk M27 := qp28_4
            clear qp28_4
            have lbqp28_9 : M26 131 12 ≤ 4 * M27 131 12 := by omega
            clear qp28_9
            refine z_goto (tgt := 94) F dX12_readLine_86 (by decide +kernel) ?_
            refine z_aload_n F dX12_readLine_94 rfl (q := 0) rfl ?_
            refine zv_v (rest := []) F (kp_X12_readStop l M27 ⟨hI, hW⟩ ⟨by omega, by omega, by omega, by omega, hT⟩ (by omega) hL (by omega)) cs_X12_259 (T := TX12) (N := 44) (ci := 12) rfl gs_131 (by decide) (by decide) rfl rfl rfl (Nat.le_of_ble_eq_true rfl) dX12_readLine_95 (fun M29 hI p30 => ?_)
            obtain ⟨hI, hW⟩ := hI
            obtain ⟨fp30, xp30⟩ := p30
            have hF := hF.call fp30 (by decide)
            obtain ⟨hL, xp30⟩ := xp30
            obtain ⟨qp30_0, qp30_1, qp30_2, qp30_3, qp30_4, qp30_5, qp30_6, qp30_7, qp30_8, qp30_9, qp30_10⟩ := xp30
            have kbM29 : 0 ≤ M29 131 12 ∧ M29 131 12 ≤ 4 := hI.at (show Bd 131 12 = (0, 4) from rfl)
            have hT : Tk M29 := qp30_7
            clear qp30_7
            have lbqp30_10 : M27 131 12 ≤ 4 * M29 131 12 := by omega
            have lpqp30_10 : M27 131 9 + 1 ≤ M29 131 9 + M29 131 12 := by omega
            clear qp30_10
            exact hret _ 98 _ ⟨hI, hW⟩ ⟨hF, ⟨hL, by omega, by omega, by omega, by omega, by omega, by omega, by omega, hT, by omega, by omega, by omega⟩⟩ dX12_readLine_98
        · refine z_aload_n F dX12_readLine_57 rfl (q := 0) rfl ?_
          refine zv_v (rest := []) F (kp_X12_readZero l M14 ⟨hI, hW⟩ ⟨by omega, by omega, by omega, by omega, hT⟩ (by omega) hL (by omega)) cs_X12_254 (T := TX12) (N := 44) (ci := 12) rfl gs_131 (by decide) (by decide) rfl rfl rfl (Nat.le_of_ble_eq_true rfl) dX12_readLine_58 (fun M31 hI p32 => ?_)
          obtain ⟨hI, hW⟩ := hI
          obtain ⟨fp32, xp32⟩ := p32
          have hF := hF.call fp32 (by decide)
          obtain ⟨hL, xp32⟩ := xp32
          obtain ⟨qp32_0, qp32_1, qp32_2, qp32_3, qp32_4, qp32_5, qp32_6, qp32_7, qp32_8, qp32_9, qp32_10⟩ := xp32
          have kbM31 : 0 ≤ M31 131 12 ∧ M31 131 12 ≤ 4 := hI.at (show Bd 131 12 = (0, 4) from rfl)
          have hT : Tk M31 := qp32_7
          clear qp32_7
          have lbqp32_10 : M14 131 12 ≤ 4 * M31 131 12 := by omega
          clear qp32_10
          refine z_goto (tgt := 94) F dX12_readLine_61 (by decide +kernel) ?_
          refine z_aload_n F dX12_readLine_94 rfl (q := 0) rfl ?_
          refine zv_v (rest := []) F (kp_X12_readStop l M31 ⟨hI, hW⟩ ⟨by omega, by omega, by omega, by omega, hT⟩ (by omega) hL (by omega)) cs_X12_259 (T := TX12) (N := 44) (ci := 12) rfl gs_131 (by decide) (by decide) rfl rfl rfl (Nat.le_of_ble_eq_true rfl) dX12_readLine_95 (fun M33 hI p34 => ?_)
          obtain ⟨hI, hW⟩ := hI
          obtain ⟨fp34, xp34⟩ := p34
          have hF := hF.call fp34 (by decide)
          obtain ⟨hL, xp34⟩ := xp34
          obtain ⟨qp34_0, qp34_1, qp34_2, qp34_3, qp34_4, qp34_5, qp34_6, qp34_7, qp34_8, qp34_9, qp34_10⟩ := xp34
          have kbM33 : 0 ≤ M33 131 12 ∧ M33 131 12 ≤ 4 := hI.at (show Bd 131 12 = (0, 4) from rfl)
          have hT : Tk M33 := qp34_7
          clear qp34_7
          have lbqp34_10 : M31 131 12 ≤ 4 * M33 131 12 := by omega
          have lpqp34_10 : M31 131 9 + 1 ≤ M33 131 9 + M33 131 12 := by omega
          clear qp34_10
          exact hret _ 98 _ ⟨hI, hW⟩ ⟨hF, ⟨hL, by omega, by omega, by omega, by omega, by omega, by omega, by omega, hT, by omega, by omega, by omega⟩⟩ dX12_readLine_98
      · refine z_aload_n F dX12_readLine_41 rfl (q := 0) rfl ?_
        refine zv_v (rest := []) F (kp_X12_readEvent l M ⟨hI, hW⟩ ⟨by omega, by omega, by omega, by omega, hT⟩ (by omega) hL (by omega)) cs_X12_249 (T := TX12) (N := 44) (ci := 12) rfl gs_131 (by decide) (by decide) rfl rfl rfl (Nat.le_of_ble_eq_true rfl) dX12_readLine_42 (fun M35 hI p36 => ?_)
        obtain ⟨hI, hW⟩ := hI
        obtain ⟨fp36, xp36⟩ := p36
        have hF := hF.call fp36 (by decide)
        obtain ⟨hL, xp36⟩ := xp36
        obtain ⟨qp36_0, qp36_1, qp36_2, qp36_3, qp36_4, qp36_5, qp36_6, qp36_7, qp36_8, qp36_9, qp36_10⟩ := xp36
        have kbM35 : 0 ≤ M35 131 12 ∧ M35 131 12 ≤ 4 := hI.at (show Bd 131 12 = (0, 4) from rfl)
        have hT : Tk M35 := qp36_7
        clear qp36_7
        have lbqp36_10 : M 131 12 ≤ 4 * M35 131 12 := by omega
        clear qp36_10
        refine z_goto (tgt := 94) F dX12_readLine_45 (by decide +kernel) ?_
        refine z_aload_n F dX12_readLine_94 rfl (q := 0) rfl ?_
        refine zv_v (rest := []) F (kp_X12_readStop l M35 ⟨hI, hW⟩ ⟨by omega, by omega, by omega, by omega, hT⟩ (by omega) hL (by omega)) cs_X12_259 (T := TX12) (N := 44) (ci := 12) rfl gs_131 (by decide) (by decide) rfl rfl rfl (Nat.le_of_ble_eq_true rfl) dX12_readLine_95 (fun M37 hI p38 => ?_)
        obtain ⟨hI, hW⟩ := hI
        obtain ⟨fp38, xp38⟩ := p38
        have hF := hF.call fp38 (by decide)
        obtain ⟨hL, xp38⟩ := xp38
        obtain ⟨qp38_0, qp38_1, qp38_2, qp38_3, qp38_4, qp38_5, qp38_6, qp38_7, qp38_8, qp38_9, qp38_10⟩ := xp38
        have kbM37 : 0 ≤ M37 131 12 ∧ M37 131 12 ≤ 4 := hI.at (show Bd 131 12 = (0, 4) from rfl)
        have hT : Tk M37 := qp38_7
        clear qp38_7
        have lbqp38_10 : M35 131 12 ≤ 4 * M37 131 12 := by omega
        have lpqp38_10 : M35 131 9 + 1 ≤ M37 131 9 + M37 131 12 := by omega
        clear qp38_10
        exact hret _ 98 _ ⟨hI, hW⟩ ⟨hF, ⟨hL, by omega, by omega, by omega, by omega, by omega, by omega, by omega, hT, by omega, by omega, by omega⟩⟩ dX12_readLine_98
    · refine z_aload_n F dX12_readLine_25 rfl (q := 0) rfl ?_
      refine zv_v (rest := []) F (kp_X12_readThing l M ⟨hI, hW⟩ ⟨by omega, by omega, by omega, by omega, hT⟩ (by omega) hL (by omega)) cs_X12_244 (T := TX12) (N := 44) (ci := 12) rfl gs_131 (by decide) (by decide) rfl rfl rfl (Nat.le_of_ble_eq_true rfl) dX12_readLine_26 (fun M39 hI p40 => ?_)
      obtain ⟨hI, hW⟩ := hI
      obtain ⟨fp40, xp40⟩ := p40
      have hF := hF.call fp40 (by decide)
      obtain ⟨hL, xp40⟩ := xp40
      obtain ⟨qp40_0, qp40_1, qp40_2, qp40_3, qp40_4, qp40_5, qp40_6, qp40_7, qp40_8, qp40_9, qp40_10⟩ := xp40
      have kbM39 : 0 ≤ M39 131 12 ∧ M39 131 12 ≤ 4 := hI.at (show Bd 131 12 = (0, 4) from rfl)
      have hT : Tk M39 := qp40_7
      clear qp40_7
      have lbqp40_10 : M 131 12 ≤ 4 * M39 131 12 := by omega
      clear qp40_10
      refine z_goto (tgt := 94) F dX12_readLine_29 (by decide +kernel) ?_
      refine z_aload_n F dX12_readLine_94 rfl (q := 0) rfl ?_
      refine zv_v (rest := []) F (kp_X12_readStop l M39 ⟨hI, hW⟩ ⟨by omega, by omega, by omega, by omega, hT⟩ (by omega) hL (by omega)) cs_X12_259 (T := TX12) (N := 44) (ci := 12) rfl gs_131 (by decide) (by decide) rfl rfl rfl (Nat.le_of_ble_eq_true rfl) dX12_readLine_95 (fun M41 hI p42 => ?_)
      obtain ⟨hI, hW⟩ := hI
      obtain ⟨fp42, xp42⟩ := p42
      have hF := hF.call fp42 (by decide)
      obtain ⟨hL, xp42⟩ := xp42
      obtain ⟨qp42_0, qp42_1, qp42_2, qp42_3, qp42_4, qp42_5, qp42_6, qp42_7, qp42_8, qp42_9, qp42_10⟩ := xp42
      have kbM41 : 0 ≤ M41 131 12 ∧ M41 131 12 ≤ 4 := hI.at (show Bd 131 12 = (0, 4) from rfl)
      have hT : Tk M41 := qp42_7
      clear qp42_7
      have lbqp42_10 : M39 131 12 ≤ 4 * M41 131 12 := by omega
      have lpqp42_10 : M39 131 9 + 1 ≤ M41 131 9 + M41 131 12 := by omega
      clear qp42_10
      exact hret _ 98 _ ⟨hI, hW⟩ ⟨hF, ⟨hL, by omega, by omega, by omega, by omega, by omega, by omega, by omega, hT, by omega, by omega, by omega⟩⟩ dX12_readLine_98
  · refine z_aload_n F dX12_readLine_9 rfl (q := 0) rfl ?_
    refine zv_v (rest := []) F (kp_X12_readTouch l M ⟨hI, hW⟩ ⟨by omega, by omega, by omega, by omega, hT⟩ (by omega) hL (by omega)) cs_X12_241 (T := TX12) (N := 44) (ci := 12) rfl gs_131 (by decide) (by decide) rfl rfl rfl (Nat.le_of_ble_eq_true rfl) dX12_readLine_10 (fun M43 hI p44 => ?_)
    obtain ⟨hI, hW⟩ := hI
    obtain ⟨fp44, xp44⟩ := p44
    have hF := hF.call fp44 (by decide)
    obtain ⟨hL, xp44⟩ := xp44
    obtain ⟨qp44_0, qp44_1, qp44_2, qp44_3, qp44_4, qp44_5, qp44_6, qp44_7, qp44_8, qp44_9, qp44_10⟩ := xp44
    have kbM43 : 0 ≤ M43 131 12 ∧ M43 131 12 ≤ 4 := hI.at (show Bd 131 12 = (0, 4) from rfl)
    have hT : Tk M43 := qp44_7
    clear qp44_7
    have lbqp44_10 : M 131 12 ≤ 4 * M43 131 12 := by omega
    clear qp44_10
    refine z_goto (tgt := 94) F dX12_readLine_13 (by decide +kernel) ?_
    refine z_aload_n F dX12_readLine_94 rfl (q := 0) rfl ?_
    refine zv_v (rest := []) F (kp_X12_readStop l M43 ⟨hI, hW⟩ ⟨by omega, by omega, by omega, by omega, hT⟩ (by omega) hL (by omega)) cs_X12_259 (T := TX12) (N := 44) (ci := 12) rfl gs_131 (by decide) (by decide) rfl rfl rfl (Nat.le_of_ble_eq_true rfl) dX12_readLine_95 (fun M45 hI p46 => ?_)
    obtain ⟨hI, hW⟩ := hI
    obtain ⟨fp46, xp46⟩ := p46
    have hF := hF.call fp46 (by decide)
    obtain ⟨hL, xp46⟩ := xp46
    obtain ⟨qp46_0, qp46_1, qp46_2, qp46_3, qp46_4, qp46_5, qp46_6, qp46_7, qp46_8, qp46_9, qp46_10⟩ := xp46
    have kbM45 : 0 ≤ M45 131 12 ∧ M45 131 12 ≤ 4 := hI.at (show Bd 131 12 = (0, 4) from rfl)
    have hT : Tk M45 := qp46_7
    clear qp46_7
    have lbqp46_10 : M43 131 12 ≤ 4 * M45 131 12 := by omega
    have lpqp46_10 : M43 131 9 + 1 ≤ M45 131 9 + M45 131 12 := by omega
    clear qp46_10
    exact hret _ 98 _ ⟨hI, hW⟩ ⟨hF, ⟨hL, by omega, by omega, by omega, by omega, by omega, by omega, by omega, hT, by omega, by omega, by omega⟩⟩ dX12_readLine_98
set_option maxHeartbeats 4000000 in
set_option maxRecDepth 4000 in
theorem kp_X12_isWord_131_1057 (l : Launch) (M : Mem) (hJ : Iw M) (hp0 : 0 ≤ M 131 9 ∧ M 131 9 ≤ M 131 8 ∧ M 131 8 ≤ M 131 7 ∧ M 131 7 ≤ 900 ∧ (M 131 10 = 0 ∨ M 131 9 < M 131 8)) : CI l yX12_isWord cX12_isWord 4 (some .boolean) 5 (fun ad => [.ref (ad 131), .ref (ad 1057)]) M (fun z M' => (0 ≤ z ∧ z ≤ 1) ∧ M = M' ∧ (z = 1 → M 131 12 = 0 ∧ M 131 10 = 1)) := by
  obtain ⟨hI, hW⟩ := hJ
  refine en_z (by decide +kernel) (fun ad => by exact Nat.le_of_ble_eq_true rfl) (fun D cy ad A p e s m args below meth c Q F hret => ?_)
  refine z_eq (ls' := [(0, .ref (ad 131)), (1, .ref (ad 1057))]) rfl rfl rfl ?_
  obtain ⟨u1, eu1⟩ : ∃ v : Int, v = M 131 7 := ⟨_, rfl⟩
  have ku1 : 0 ≤ u1 ∧ u1 ≤ 900 := by have := hI.at (show Bd 131 7 = (0, 900) from rfl); omega
  obtain ⟨u2, eu2⟩ : ∃ v : Int, v = M 131 8 := ⟨_, rfl⟩
  have ku2 : 0 ≤ u2 ∧ u2 ≤ 900 := by have := hI.at (show Bd 131 8 = (0, 900) from rfl); omega
  obtain ⟨u3, eu3⟩ : ∃ v : Int, v = M 131 9 := ⟨_, rfl⟩
  have ku3 : 0 ≤ u3 ∧ u3 ≤ 900 := by have := hI.at (show Bd 131 9 = (0, 900) from rfl); omega
  obtain ⟨u4, eu4⟩ : ∃ v : Int, v = M 131 10 := ⟨_, rfl⟩
  have ku4 : (-2147483648) ≤ u4 ∧ u4 ≤ 2147483647 := by have := hI.at (show Bd 131 10 = (-2147483648, 2147483647) from rfl); omega
  obtain ⟨u5, eu5⟩ : ∃ v : Int, v = M 131 12 := ⟨_, rfl⟩
  have ku5 : 0 ≤ u5 ∧ u5 ≤ 4 := by have := hI.at (show Bd 131 12 = (0, 4) from rfl); omega
  obtain ⟨u6, eu6⟩ : ∃ v : Int, v = M 131 16 := ⟨_, rfl⟩
  have ku6 : (-2147483648) ≤ u6 ∧ u6 ≤ 2147483647 := by have := hI.at (show Bd 131 16 = (-2147483648, 2147483647) from rfl); omega
  refine z_aload_n F dX12_isWord_0 rfl (q := 0) rfl ?_
  refine gf_X12_108 F hI gs_131 rfl bd_131_12 dX12_isWord_1 (fun v7 ev7 av7 bv7 => ?_)
  have zv7 : u5 = v7 := eu5.trans ev7.symm
  subst zv7
  refine z_if_ne (tgt := 35) F dX12_isWord_4 (by decide +kernel) (by omega) (fun c8 => ?_) (fun c8 => ?_)
  · refine z_iconst F dX12_isWord_35 ?_
    refine z_istore_n F dX12_isWord_36 rfl (by decide) (ls' := [(2, ii 0), (0, .ref (ad 131)), (1, .ref (ad 1057))]) rfl ?_
    refine z_iconst F dX12_isWord_37 ?_
    refine z_istore_n F dX12_isWord_38 rfl (by decide) (ls' := [(3, ii 0), (2, ii 0), (0, .ref (ad 131)), (1, .ref (ad 1057))]) rfl ?_
    refine z_loc [2, 3, 1, 0] (ls' := [(0, .ref (ad 131)), (1, .ref (ad 1057)), (2, ii 0), (3, ii 0)]) rfl ?_
    suffices key39 : ∀ (n : Nat) (y10 : Int) (y11 : Int), 0 ≤ y10 → y10 ≤ 0 → 0 ≤ y11 → y11 ≤ 0 → (y10 = 1 → M 131 12 = 0 ∧ M 131 10 = 1 ∧ M 131 8 - M 131 9 = 6) → 0 < (n : Int) → Z D cy ad p l e (RMh 5) s m args below meth c A 4 0 0 Q 39 [(0, .ref (ad 131)), (1, .ref (ad 1057)), (2, ii y10), (3, ii y11)] [] M from key39 1 0 0 (by omega) (by omega) (by omega) (by omega) (by omega) (by omega)
    intro n39
    induction n39 with
    | zero => intro y10 y11 ay10 by10 ay11 by11 i39_0 hn39; exfalso; omega
    | succ n39 ih39 =>
      intro y10 y11 ay10 by10 ay11 by11 i39_0 hn39
      refine z_iload_n F dX12_isWord_39 rfl (q := 2) rfl ?_
      refine z_if_eq (tgt := 82) F dX12_isWord_40 (by decide +kernel) (by omega) (fun c12 => ?_) (fun c12 => by exfalso; omega)
      refine z_iload_n F dX12_isWord_82 rfl (q := 2) rfl ?_
      exact hret _ _ 83 _ ⟨by omega, by omega⟩ ⟨hI, hW⟩ ⟨⟨by omega, by omega⟩, rfl, (by omega)⟩ dX12_isWord_83
  · refine z_aload_n F dX12_isWord_7 rfl (q := 0) rfl ?_
    refine gf_X12_88 F hI gs_131 rfl bd_131_10 dX12_isWord_8 (fun v13 ev13 av13 bv13 => ?_)
    have zv13 : u4 = v13 := eu4.trans ev13.symm
    subst zv13
    refine z_iconst F dX12_isWord_11 ?_
    refine z_icmp_ne (tgt := 35) F dX12_isWord_12 (by decide +kernel) (by omega) (by omega) (fun c14 => ?_) (fun c14 => ?_)
    · refine z_iconst F dX12_isWord_35 ?_
      refine z_istore_n F dX12_isWord_36 rfl (by decide) (ls' := [(2, ii 0), (0, .ref (ad 131)), (1, .ref (ad 1057))]) rfl ?_
      refine z_iconst F dX12_isWord_37 ?_
      refine z_istore_n F dX12_isWord_38 rfl (by decide) (ls' := [(3, ii 0), (2, ii 0), (0, .ref (ad 131)), (1, .ref (ad 1057))]) rfl ?_
      refine z_loc [2, 3, 1, 0] (ls' := [(0, .ref (ad 131)), (1, .ref (ad 1057)), (2, ii 0), (3, ii 0)]) rfl ?_
      suffices key39 : ∀ (n : Nat) (y16 : Int) (y17 : Int), 0 ≤ y16 → y16 ≤ 0 → 0 ≤ y17 → y17 ≤ 0 → (y16 = 1 → M 131 12 = 0 ∧ M 131 10 = 1 ∧ M 131 8 - M 131 9 = 6) → 0 < (n : Int) → Z D cy ad p l e (RMh 5) s m args below meth c A 4 0 0 Q 39 [(0, .ref (ad 131)), (1, .ref (ad 1057)), (2, ii y16), (3, ii y17)] [] M from key39 1 0 0 (by omega) (by omega) (by omega) (by omega) (by omega) (by omega)
      intro n39
      induction n39 with
      | zero => intro y16 y17 ay16 by16 ay17 by17 i39_0 hn39; exfalso; omega
      | succ n39 ih39 =>
        intro y16 y17 ay16 by16 ay17 by17 i39_0 hn39
        refine z_iload_n F dX12_isWord_39 rfl (q := 2) rfl ?_
        refine z_if_eq (tgt := 82) F dX12_isWord_40 (by decide +kernel) (by omega) (fun c18 => ?_) (fun c18 => by exfalso; omega)
        refine z_iload_n F dX12_isWord_82 rfl (q := 2) rfl ?_
        exact hret _ _ 83 _ ⟨by omega, by omega⟩ ⟨hI, hW⟩ ⟨⟨by omega, by omega⟩, rfl, (by omega)⟩ dX12_isWord_83
    · refine z_aload_n F dX12_isWord_15 rfl (q := 0) rfl ?_
      refine gf_X12_82 F hI gs_131 rfl bd_131_8 dX12_isWord_16 (fun v19 ev19 av19 bv19 => ?_)
      have zv19 : u2 = v19 := eu2.trans ev19.symm
      subst zv19
      refine z_aload_n F dX12_isWord_19 rfl (q := 0) rfl ?_
      refine gf_X12_85 F hI gs_131 rfl bd_131_9 dX12_isWord_20 (fun v20 ev20 av20 bv20 => ?_)
      have zv20 : u3 = v20 := eu3.trans ev20.symm
      subst zv20
      refine z_isub F dX12_isWord_23 ?_
      refine z_aload_n F dX12_isWord_24 rfl (q := 1) rfl ?_
      refine zvs_i (i := 57) (rest := [ii (u2 - u3)]) F (kS_len l M ⟨hI, hW⟩ 57 (by decide)) cs_X12_114 (by decide) (by decide) (by decide) rfl rfl rfl (Nat.le_of_ble_eq_true rfl) dX12_isWord_25 (fun v21 M9 rv21 hI9 pv21 => ?_)
      obtain ⟨ev21, rfl⟩ := pv21
      obtain rfl : v21 = 6 := ev21.trans (show ((sbyt.getD 57 []).length : Int) = 6 from by decide)
      clear hI9
      refine z_icmp_ne (tgt := 35) F dX12_isWord_28 (by decide +kernel) (by omega) (by omega) (fun c22 => ?_) (fun c22 => ?_)
      · refine z_iconst F dX12_isWord_35 ?_
        refine z_istore_n F dX12_isWord_36 rfl (by decide) (ls' := [(2, ii 0), (0, .ref (ad 131)), (1, .ref (ad 1057))]) rfl ?_
        refine z_iconst F dX12_isWord_37 ?_
        refine z_istore_n F dX12_isWord_38 rfl (by decide) (ls' := [(3, ii 0), (2, ii 0), (0, .ref (ad 131)), (1, .ref (ad 1057))]) rfl ?_
        refine z_loc [2, 3, 1, 0] (ls' := [(0, .ref (ad 131)), (1, .ref (ad 1057)), (2, ii 0), (3, ii 0)]) rfl ?_
        suffices key39 : ∀ (n : Nat) (y24 : Int) (y25 : Int), 0 ≤ y24 → y24 ≤ 0 → 0 ≤ y25 → y25 ≤ 0 → (y24 = 1 → M 131 12 = 0 ∧ M 131 10 = 1 ∧ M 131 8 - M 131 9 = 6) → 0 < (n : Int) → Z D cy ad p l e (RMh 5) s m args below meth c A 4 0 0 Q 39 [(0, .ref (ad 131)), (1, .ref (ad 1057)), (2, ii y24), (3, ii y25)] [] M from key39 1 0 0 (by omega) (by omega) (by omega) (by omega) (by omega) (by omega)
        intro n39
        induction n39 with
        | zero => intro y24 y25 ay24 by24 ay25 by25 i39_0 hn39; exfalso; omega
        | succ n39 ih39 =>
          intro y24 y25 ay24 by24 ay25 by25 i39_0 hn39
          refine z_iload_n F dX12_isWord_39 rfl (q := 2) rfl ?_
          refine z_if_eq (tgt := 82) F dX12_isWord_40 (by decide +kernel) (by omega) (fun c26 => ?_) (fun c26 => by exfalso; omega)
          refine z_iload_n F dX12_isWord_82 rfl (q := 2) rfl ?_
          exact hret _ _ 83 _ ⟨by omega, by omega⟩ ⟨hI, hW⟩ ⟨⟨by omega, by omega⟩, rfl, (by omega)⟩ dX12_isWord_83
      · refine z_iconst F dX12_isWord_31 ?_
        refine z_goto (tgt := 36) F dX12_isWord_32 (by decide +kernel) ?_
        refine z_istore_n F dX12_isWord_36 rfl (by decide) (ls' := [(2, ii 1), (0, .ref (ad 131)), (1, .ref (ad 1057))]) rfl ?_
        refine z_iconst F dX12_isWord_37 ?_
        refine z_istore_n F dX12_isWord_38 rfl (by decide) (ls' := [(3, ii 0), (2, ii 1), (0, .ref (ad 131)), (1, .ref (ad 1057))]) rfl ?_
        refine z_loc [2, 3, 1, 0] (ls' := [(0, .ref (ad 131)), (1, .ref (ad 1057)), (2, ii 1), (3, ii 0)]) rfl ?_
        suffices key39 : ∀ (n : Nat) (y28 : Int) (y29 : Int), 0 ≤ y28 → y28 ≤ 1 → 0 ≤ y29 → y29 ≤ 6 → (y28 = 1 → M 131 12 = 0 ∧ M 131 10 = 1 ∧ M 131 8 - M 131 9 = 6) → 6 - y29 < (n : Int) → Z D cy ad p l e (RMh 5) s m args below meth c A 4 0 0 Q 39 [(0, .ref (ad 131)), (1, .ref (ad 1057)), (2, ii y28), (3, ii y29)] [] M from key39 7 1 0 (by omega) (by omega) (by omega) (by omega) (by omega) (by omega)
        intro n39
        induction n39 with
        | zero => intro y28 y29 ay28 by28 ay29 by29 i39_0 hn39; exfalso; omega
        | succ n39 ih39 =>
          intro y28 y29 ay28 by28 ay29 by29 i39_0 hn39
          refine z_iload_n F dX12_isWord_39 rfl (q := 2) rfl ?_
          refine z_if_eq (tgt := 82) F dX12_isWord_40 (by decide +kernel) (by omega) (fun c30 => ?_) (fun c30 => ?_)
          · refine z_iload_n F dX12_isWord_82 rfl (q := 2) rfl ?_
            exact hret _ _ 83 _ ⟨by omega, by omega⟩ ⟨hI, hW⟩ ⟨⟨by omega, by omega⟩, rfl, (by omega)⟩ dX12_isWord_83
          · refine z_iload_n F dX12_isWord_43 rfl (q := 3) rfl ?_
            refine z_aload_n F dX12_isWord_44 rfl (q := 1) rfl ?_
            refine zvs_i (i := 57) (rest := [ii y29]) F (kS_len l M ⟨hI, hW⟩ 57 (by decide)) cs_X12_114 (by decide) (by decide) (by decide) rfl rfl rfl (Nat.le_of_ble_eq_true rfl) dX12_isWord_45 (fun v31 M9 rv31 hI9 pv31 => ?_)
            obtain ⟨ev31, rfl⟩ := pv31
            obtain rfl : v31 = 6 := ev31.trans (show ((sbyt.getD 57 []).length : Int) = 6 from by decide)
            clear hI9
            refine z_icmp_ge (tgt := 82) F dX12_isWord_48 (by decide +kernel) (by omega) (by omega) (fun c32 => ?_) (fun c32 => ?_)
            · refine z_iload_n F dX12_isWord_82 rfl (q := 2) rfl ?_
              exact hret _ _ 83 _ ⟨by omega, by omega⟩ ⟨hI, hW⟩ ⟨⟨by omega, by omega⟩, rfl, (by omega)⟩ dX12_isWord_83
            · refine z_aload_n F dX12_isWord_51 rfl (q := 0) rfl ?_
              refine rf_X12_23 F gs_131 rfl dX12_isWord_52 ?_
              refine z_aload_n F dX12_isWord_55 rfl (q := 0) rfl ?_
              refine gf_X12_85 F hI gs_131 rfl bd_131_9 dX12_isWord_56 (fun v33 ev33 av33 bv33 => ?_)
              have zv33 : u3 = v33 := eu3.trans ev33.symm
              subst zv33
              refine z_iload_n F dX12_isWord_59 rfl (q := 3) rfl ?_
              refine z_iadd F dX12_isWord_60 ?_
              have k34 : 0 ≤ (u3 + y29) ∧ (u3 + y29) ≤ 899 := by omega
              refine z_iald F hI gs_136 (by omega) (by omega) (by decide) bd_136 dX12_isWord_61 (fun v35 (ev35 : v35 = M 136 _) av35 bv35 => ?_)
              refine z_aload_n F dX12_isWord_62 rfl (q := 1) rfl ?_
              refine z_iload_n F dX12_isWord_63 rfl (q := 3) rfl ?_
              refine zvs_i (i := 57) (rest := [ii v35]) F (kS_chr l M ⟨hI, hW⟩ 57 (by decide) y29 (by omega) (show y29 < ((sbyt.getD 57 []).length : Int) from by rw [show ((sbyt.getD 57 []).length : Int) = 6 from by decide]; omega)) cs_X12_119 (by decide) (by decide) (by decide) rfl rfl rfl (Nat.le_of_ble_eq_true rfl) dX12_isWord_64 (fun v36 M9 rv36 hI9 pv36 => ?_)
              obtain ⟨⟨av36, bv36⟩, rfl⟩ := pv36
              clear hI9
              refine z_icmp_ne (tgt := 74) F dX12_isWord_67 (by decide +kernel) (by omega) (by omega) (fun c37 => ?_) (fun c37 => ?_)
              · refine z_iconst F dX12_isWord_74 ?_
                refine z_istore_n F dX12_isWord_75 rfl (by decide) (ls' := [(2, ii 0), (0, .ref (ad 131)), (1, .ref (ad 1057)), (3, ii y29)]) rfl ?_
                refine z_iincN F dX12_isWord_76 (q := 3) rfl (by decide) (fun v38 ev38 => ?_)
                refine z_eq (ls' := [(3, ii v38), (2, ii 0), (0, .ref (ad 131)), (1, .ref (ad 1057))]) rfl rfl rfl ?_
                refine z_goto (tgt := 39) F dX12_isWord_79 (by decide +kernel) ?_
                refine z_loc [2, 3, 1, 0] (ls' := [(0, .ref (ad 131)), (1, .ref (ad 1057)), (2, ii 0), (3, ii v38)]) rfl ?_
                exact ih39 0 v38 (by omega) (by omega) (by omega) (by omega) (by omega) (by omega)
              · refine z_iconst F dX12_isWord_70 ?_
                refine z_goto (tgt := 75) F dX12_isWord_71 (by decide +kernel) ?_
                refine z_istore_n F dX12_isWord_75 rfl (by decide) (ls' := [(2, ii 1), (0, .ref (ad 131)), (1, .ref (ad 1057)), (3, ii y29)]) rfl ?_
                refine z_iincN F dX12_isWord_76 (q := 3) rfl (by decide) (fun v39 ev39 => ?_)
                refine z_eq (ls' := [(3, ii v39), (2, ii 1), (0, .ref (ad 131)), (1, .ref (ad 1057))]) rfl rfl rfl ?_
                refine z_goto (tgt := 39) F dX12_isWord_79 (by decide +kernel) ?_
                refine z_loc [2, 3, 1, 0] (ls' := [(0, .ref (ad 131)), (1, .ref (ad 1057)), (2, ii 1), (3, ii v39)]) rfl ?_
                exact ih39 1 v39 (by omega) (by omega) (by omega) (by omega) (by omega) (by omega)
set_option maxHeartbeats 4000000 in
set_option maxRecDepth 4000 in
theorem kp_X12_took_131_1057 (l : Launch) (M : Mem) (hJ : Iw M) (hp0 : 0 ≤ M 131 9 ∧ M 131 9 ≤ M 131 8 ∧ M 131 8 ≤ M 131 7 ∧ M 131 7 ≤ 900 ∧ (M 131 10 = 0 ∨ M 131 9 < M 131 8)) : CI l yX12_took cX12_took 3 (some .boolean) 6 (fun ad => [.ref (ad 131), .ref (ad 1057)]) M (fun z M' => (0 ≤ z ∧ z ≤ 1) ∧ Fr [131] M M' ∧ (M' 131 7 = M 131 7 ∧ M' 131 16 = M 131 16 ∧ M 131 9 ≤ M' 131 9 ∧ 0 ≤ M' 131 9 ∧ M' 131 9 ≤ M' 131 8 ∧ M' 131 8 ≤ M' 131 7 ∧ M' 131 7 ≤ 900 ∧ (M' 131 10 = 0 ∨ M' 131 9 < M' 131 8) ∧ M' 131 12 = M 131 12 ∧ (z = 1 → M 131 12 = 0 ∧ M 131 9 < M' 131 9))) := by
  obtain ⟨hI, hW⟩ := hJ
  have hF : Fr [131] M M := Fr.rf
  refine en_z (by decide +kernel) (fun ad => by exact Nat.le_of_ble_eq_true rfl) (fun D cy ad A p e s m args below meth c Q F hret => ?_)
  refine z_eq (ls' := [(0, .ref (ad 131)), (1, .ref (ad 1057))]) rfl rfl rfl ?_
  refine z_aload_n F dX12_took_0 rfl (q := 0) rfl ?_
  refine z_aload_n F dX12_took_1 rfl (q := 1) rfl ?_
  refine zv_i (rest := []) F (kp_X12_isWord_131_1057 l M ⟨hI, hW⟩ (by omega)) cs_X12_123 (T := TX12) (N := 44) (ci := 12) rfl gs_131 (by decide) (by decide) rfl rfl rfl (Nat.le_of_ble_eq_true rfl) dX12_took_2 (fun v1 M2 rv1 hI p3 => ?_)
  obtain ⟨hI, hW⟩ := hI
  obtain ⟨⟨av1, bv1⟩, rfl, xp3⟩ := p3
  refine z_istore_n F dX12_took_5 rfl (by decide) (ls' := [(2, ii v1), (0, .ref (ad 131)), (1, .ref (ad 1057))]) rfl ?_
  refine z_iload_n F dX12_took_6 rfl (q := 0) rfl ?_
  refine z_if_eq (tgt := 14) F dX12_took_7 (by decide +kernel) (by omega) (fun c4 => ?_) (fun c4 => ?_)
  · refine z_iload_n F dX12_took_14 rfl (q := 0) rfl ?_
    exact hret _ _ 15 _ ⟨by omega, by omega⟩ ⟨hI, hW⟩ ⟨⟨by omega, by omega⟩, hF, (by omega)⟩ dX12_took_15
  · refine z_aload_n F dX12_took_10 rfl (q := 1) rfl ?_
    refine zv_v (rest := []) F (kp_X12_readsOn l M ⟨hI, hW⟩ (by omega)) cs_X12_127 (T := TX12) (N := 44) (ci := 12) rfl gs_131 (by decide) (by decide) rfl rfl rfl (Nat.le_of_ble_eq_true rfl) dX12_took_11 (fun M5 hI p6 => ?_)
    obtain ⟨hI, hW⟩ := hI
    obtain ⟨fp6, xp6⟩ := p6
    have hF := hF.call fp6 (by decide)
    have tM5_133_6 : M5 133 6 = M 133 6 := fp6.at (by decide)
    have tM5_133_1 : M5 133 1 = M 133 1 := fp6.at (by decide)
    refine z_iload_n F dX12_took_14 rfl (q := 0) rfl ?_
    exact hret _ _ 15 _ ⟨by omega, by omega⟩ ⟨hI, hW⟩ ⟨⟨by omega, by omega⟩, hF, (by omega)⟩ dX12_took_15
set_option maxHeartbeats 4000000 in
set_option maxRecDepth 4000 in
theorem kp_X12_mustWord_131_1057 (l : Launch) (M : Mem) (hJ : Iw M) (hp0 : 0 ≤ M 131 9 ∧ M 131 9 ≤ M 131 8 ∧ M 131 8 ≤ M 131 7 ∧ M 131 7 ≤ 900 ∧ (M 131 10 = 0 ∨ M 131 9 < M 131 8)) : CV l yX12_mustWord cX12_mustWord 2 none 7 (fun ad => [.ref (ad 131), .ref (ad 1057)]) M (fun M' => Fr [131] M M' ∧ (M' 131 7 = M 131 7 ∧ M' 131 16 = M 131 16 ∧ M 131 9 ≤ M' 131 9 ∧ 0 ≤ M' 131 9 ∧ M' 131 9 ≤ M' 131 8 ∧ M' 131 8 ≤ M' 131 7 ∧ M' 131 7 ≤ 900 ∧ (M' 131 10 = 0 ∨ M' 131 9 < M' 131 8) ∧ (M' 131 12 = 0 → M 131 12 = 0))) := by
  obtain ⟨hI, hW⟩ := hJ
  have hF : Fr [131] M M := Fr.rf
  refine en_v (by decide +kernel) (fun ad => by exact Nat.le_of_ble_eq_true rfl) (fun D cy ad A p e s m args below meth c Q F hret => ?_)
  refine z_eq (ls' := [(0, .ref (ad 131)), (1, .ref (ad 1057))]) rfl rfl rfl ?_
  refine z_aload_n F dX12_mustWord_0 rfl (q := 0) rfl ?_
  refine z_aload_n F dX12_mustWord_1 rfl (q := 1) rfl ?_
  refine zv_i (rest := []) F (kp_X12_took_131_1057 l M ⟨hI, hW⟩ (by omega)) cs_X12_130 (T := TX12) (N := 44) (ci := 12) rfl gs_131 (by decide) (by decide) rfl rfl rfl (Nat.le_of_ble_eq_true rfl) dX12_mustWord_2 (fun v1 M2 rv1 hI p3 => ?_)
  obtain ⟨hI, hW⟩ := hI
  obtain ⟨⟨av1, bv1⟩, fp3, xp3⟩ := p3
  have hF := hF.call fp3 (by decide)
  have tM2_133_6 : M2 133 6 = M 133 6 := fp3.at (by decide)
  have tM2_133_1 : M2 133 1 = M 133 1 := fp3.at (by decide)
  refine z_if_ne (tgt := 13) F dX12_mustWord_5 (by decide +kernel) (by omega) (fun c4 => ?_) (fun c4 => ?_)
  · exact hret _ 13 _ ⟨hI, hW⟩ ⟨hF, (by omega)⟩ dX12_mustWord_13
  · refine z_aload_n F dX12_mustWord_8 rfl (q := 0) rfl ?_
    refine z_iconst F dX12_mustWord_9 ?_
    refine zv_v (rest := []) F (kp_X12_blames l M2 ⟨hI, hW⟩ 2 (by omega) (by omega)) cs_X12_133 (T := TX12) (N := 44) (ci := 12) rfl gs_131 (by decide) (by decide) rfl rfl rfl (Nat.le_of_ble_eq_true rfl) dX12_mustWord_10 (fun M5 hI p6 => ?_)
    obtain ⟨hI, hW⟩ := hI
    obtain ⟨fp6, xp6⟩ := p6
    have hF := hF.call fp6 (by decide)
    have tM5_133_6 : M5 133 6 = M2 133 6 := fp6.at (by decide)
    have tM5_133_1 : M5 133 1 = M2 133 1 := fp6.at (by decide)
    exact hret _ 13 _ ⟨hI, hW⟩ ⟨hF, (by omega)⟩ dX12_mustWord_13
set_option maxHeartbeats 4000000 in
set_option maxRecDepth 4000 in
theorem kp_X12_town (l : Launch) (M : Mem) (hJ : Iw M) (x0 : Int) (hx0a : (-2147483648) ≤ x0) (hx0b : x0 ≤ 2147483647) : CI l yX12_town cX12_town 3 (some .int) 87 (fun ad => [.ref (ad 131), ii x0]) M (fun z M' => ((-2147483648) ≤ z ∧ z ≤ 2147483647) ∧ Fr [131, 132, 133, 231, 232] M M' ∧ (0 ≤ x0 ∧ x0 ≤ M 131 6 ∧ M' 131 6 = 0 ∨ (x0 < 0 ∨ M 131 6 < x0) ∧ M' 131 6 = M 131 6)) := by
  obtain ⟨hI, hW⟩ := hJ
  have hF : Fr [131, 132, 133, 231, 232] M M := Fr.rf
  refine en_i (by decide +kernel) (fun ad => by exact Nat.le_of_ble_eq_true rfl) (fun D cy ad A p e s m args below meth c Q F hret => ?_)
  refine z_eq (ls' := [(0, .ref (ad 131)), (1, ii x0)]) rfl rfl rfl ?_
  obtain ⟨u1, eu1⟩ : ∃ v : Int, v = M 131 6 := ⟨_, rfl⟩
  have ku1 : 0 ≤ u1 ∧ u1 ≤ 900 := by have := hI.at (show Bd 131 6 = (0, 900) from rfl); omega
  refine z_aload_n F dX12_town_0 rfl (q := 0) rfl ?_
  refine z_iconst F dX12_town_1 ?_
  refine pf_X12_73 F hI gs_131 rfl bd_131_4 rfl rfl dX12_town_2 (by omega) (by omega) (fun M3 hI sf2 f2 => ?_)
  have tM3_131_7 : M3 131 7 = M 131 7 := f2 131 7 (fun q => absurd q.2 (by decide))
  have tM3_131_8 : M3 131 8 = M 131 8 := f2 131 8 (fun q => absurd q.2 (by decide))
  have tM3_131_9 : M3 131 9 = M 131 9 := f2 131 9 (fun q => absurd q.2 (by decide))
  have tM3_131_10 : M3 131 10 = M 131 10 := f2 131 10 (fun q => absurd q.2 (by decide))
  have tM3_131_12 : M3 131 12 = M 131 12 := f2 131 12 (fun q => absurd q.2 (by decide))
  have tM3_131_16 : M3 131 16 = M 131 16 := f2 131 16 (fun q => absurd q.2 (by decide))
  have hF := hF.wrf f2 (by decide) (by decide)
  have hW : WFk M3 := hW.site f2 (by decide)
  refine z_iload_n F dX12_town_5 rfl (q := 1) rfl ?_
  refine z_i2l F dX12_town_6 (by omega) ?_
  refine z_lconst (x := 0) F dX12_town_7 (by decide +kernel) ?_
  refine z_aload_n F dX12_town_8 rfl (q := 0) rfl ?_
  refine gf_X12_76 F hI gs_131 rfl bd_131_6 dX12_town_9 (fun v4 ev4 av4 bv4 => ?_)
  have q5 : u1 = M3 131 6 := eu1.trans (f2 131 6 (fun q => absurd q.2 (by decide))).symm
  have zv4 : u1 = v4 := q5.trans ev4.symm
  subst zv4
  refine z_i2l F dX12_town_12 (by omega) ?_
  refine zs_i (rest := []) F (k_X12_within l M3 ⟨hI, hW⟩ x0 (by omega) (by omega) 0 (by omega) (by omega) u1 (by omega) (by omega)) cs_X12_137 (by decide) (by decide) rfl rfl rfl (Nat.le_of_ble_eq_true rfl) dX12_town_13 (fun v6 M7 rv6 hI p8 => ?_)
  obtain ⟨hI, hW⟩ := hI
  obtain ⟨⟨av6, bv6⟩, rfl, xp8⟩ := p8
  refine z_if_ne (tgt := 25) F dX12_town_16 (by decide +kernel) (by omega) (fun c9 => ?_) (fun c9 => ?_)
  · refine z_aload_n F dX12_town_25 rfl (q := 0) rfl ?_
    refine z_iload_n F dX12_town_26 rfl (q := 1) rfl ?_
    refine pf_X12_79 F hI gs_131 rfl bd_131_7 rfl rfl dX12_town_27 (by omega) (by omega) (fun M11 hI sf10 f10 => ?_)
    have tM11_131_8 : M11 131 8 = M3 131 8 := f10 131 8 (fun q => absurd q.2 (by decide))
    have tM11_131_9 : M11 131 9 = M3 131 9 := f10 131 9 (fun q => absurd q.2 (by decide))
    have tM11_131_10 : M11 131 10 = M3 131 10 := f10 131 10 (fun q => absurd q.2 (by decide))
    have tM11_131_12 : M11 131 12 = M3 131 12 := f10 131 12 (fun q => absurd q.2 (by decide))
    have tM11_131_16 : M11 131 16 = M3 131 16 := f10 131 16 (fun q => absurd q.2 (by decide))
    have hF := hF.wrf f10 (by decide) (by decide)
    have hW : WFk M11 := hW.site f10 (by decide)
    refine z_aload_n F dX12_town_30 rfl (q := 0) rfl ?_
    refine z_iconst F dX12_town_31 ?_
    refine pf_X12_76 F hI gs_131 rfl bd_131_6 rfl rfl dX12_town_32 (by omega) (by omega) (fun M13 hI sf12 f12 => ?_)
    have tM13_131_7 : M13 131 7 = M11 131 7 := f12 131 7 (fun q => absurd q.2 (by decide))
    have tM13_131_8 : M13 131 8 = M11 131 8 := f12 131 8 (fun q => absurd q.2 (by decide))
    have tM13_131_9 : M13 131 9 = M11 131 9 := f12 131 9 (fun q => absurd q.2 (by decide))
    have tM13_131_10 : M13 131 10 = M11 131 10 := f12 131 10 (fun q => absurd q.2 (by decide))
    have tM13_131_12 : M13 131 12 = M11 131 12 := f12 131 12 (fun q => absurd q.2 (by decide))
    have tM13_131_16 : M13 131 16 = M11 131 16 := f12 131 16 (fun q => absurd q.2 (by decide))
    have hF := hF.wrf f12 (by decide) (by decide)
    have hW : WFk M13 := hW.site f12 (by decide)
    refine z_aload_n F dX12_town_35 rfl (q := 0) rfl ?_
    refine z_iconst F dX12_town_36 ?_
    refine pf_X12_82 F hI gs_131 rfl bd_131_8 rfl rfl dX12_town_37 (by omega) (by omega) (fun M15 hI sf14 f14 => ?_)
    have tM15_131_7 : M15 131 7 = M13 131 7 := f14 131 7 (fun q => absurd q.2 (by decide))
    have tM15_131_9 : M15 131 9 = M13 131 9 := f14 131 9 (fun q => absurd q.2 (by decide))
    have tM15_131_10 : M15 131 10 = M13 131 10 := f14 131 10 (fun q => absurd q.2 (by decide))
    have tM15_131_12 : M15 131 12 = M13 131 12 := f14 131 12 (fun q => absurd q.2 (by decide))
    have tM15_131_16 : M15 131 16 = M13 131 16 := f14 131 16 (fun q => absurd q.2 (by decide))
    have hF := hF.wrf f14 (by decide) (by decide)
    have hW : WFk M15 := hW.site f14 (by decide)
    refine z_aload_n F dX12_town_40 rfl (q := 0) rfl ?_
    refine z_iconst F dX12_town_41 ?_
    refine pf_X12_108 F hI gs_131 rfl bd_131_12 rfl rfl dX12_town_42 (by omega) (by omega) (fun M17 hI sf16 f16 => ?_)
    have tM17_131_7 : M17 131 7 = M15 131 7 := f16 131 7 (fun q => absurd q.2 (by decide))
    have tM17_131_8 : M17 131 8 = M15 131 8 := f16 131 8 (fun q => absurd q.2 (by decide))
    have tM17_131_9 : M17 131 9 = M15 131 9 := f16 131 9 (fun q => absurd q.2 (by decide))
    have tM17_131_10 : M17 131 10 = M15 131 10 := f16 131 10 (fun q => absurd q.2 (by decide))
    have tM17_131_16 : M17 131 16 = M15 131 16 := f16 131 16 (fun q => absurd q.2 (by decide))
    have hF := hF.wrf f16 (by decide) (by decide)
    have hW : WFk M17 := hW.site f16 (by decide)
    refine z_aload_n F dX12_town_45 rfl (q := 0) rfl ?_
    refine z_iconst F dX12_town_46 ?_
    refine pf_X12_141 F hI gs_131 rfl bd_131_16 rfl rfl dX12_town_47 (by omega) (by omega) (fun M19 hI sf18 f18 => ?_)
    have tM19_131_7 : M19 131 7 = M17 131 7 := f18 131 7 (fun q => absurd q.2 (by decide))
    have tM19_131_8 : M19 131 8 = M17 131 8 := f18 131 8 (fun q => absurd q.2 (by decide))
    have tM19_131_9 : M19 131 9 = M17 131 9 := f18 131 9 (fun q => absurd q.2 (by decide))
    have tM19_131_10 : M19 131 10 = M17 131 10 := f18 131 10 (fun q => absurd q.2 (by decide))
    have tM19_131_12 : M19 131 12 = M17 131 12 := f18 131 12 (fun q => absurd q.2 (by decide))
    have hF := hF.wrf f18 (by decide) (by decide)
    have hW : WFk M19 := hW.site f18 (by decide)
    refine z_iconst F dX12_town_50 ?_
    refine z_istore_n F dX12_town_51 rfl (by decide) (ls' := [(2, ii 0), (0, .ref (ad 131)), (1, ii x0)]) rfl ?_
    refine z_loc [1, 0] (ls' := [(0, .ref (ad 131)), (2, ii 0)]) rfl ?_
    have q22 : 0 = M15 131 6 := sf12.symm.trans (f14 131 6 (fun q => absurd q.2 (by decide))).symm
    have q23 : 0 = M17 131 6 := q22.trans (f16 131 6 (fun q => absurd q.2 (by decide))).symm
    have q24 : 0 = M19 131 6 := q23.trans (f18 131 6 (fun q => absurd q.2 (by decide))).symm
    suffices key52 : ∀ (n : Nat) (y21 : Int) (M20 : Mem), Inv M20 → WFk M20 → Fr [131, 132, 133, 231, 232] M M20 → 0 ≤ y21 → y21 ≤ 1300 → (M20 131 7 = x0) → (M20 131 8 = 0) → (M20 131 12 = 0) → (M20 131 16 = 0) → (6 < y21 → M20 133 6 = 0) → (M20 131 6 = 0) → 1300 - y21 < (n : Int) → Z D cy ad p l e (RMh 87) s m args below meth c A 3 0 0 Q 52 [(0, .ref (ad 131)), (2, ii y21)] [] M20 from key52 1301 0 M19 hI hW hF (by omega) (by omega) (by omega) (by omega) (by omega) (by omega) (by omega) (by omega) (by omega)
    intro n52
    induction n52 with
    | zero => intro y21 M20 hI hW hF ay21 by21 i52_0 i52_1 i52_2 i52_3 i52_4 i52_5 hn52; exfalso; omega
    | succ n52 ih52 =>
      intro y21 M20 hI hW hF ay21 by21 i52_0 i52_1 i52_2 i52_3 i52_4 i52_5 hn52
      obtain ⟨u25, eu25⟩ : ∃ v : Int, v = M20 131 6 := ⟨_, rfl⟩
      have ku25 : 0 ≤ u25 ∧ u25 ≤ 900 := by have := hI.at (show Bd 131 6 = (0, 900) from rfl); omega
      refine z_iload_n F dX12_town_52 rfl (q := 1) rfl ?_
      refine z_sipush F dX12_town_53 (by decide +kernel) ?_
      refine z_icmp_ge (tgt := 72) F dX12_town_56 (by decide +kernel) (by omega) (by omega) (fun c26 => ?_) (fun c26 => ?_)
      · have h6z := i52_4 (by omega)
        have hL := wl_n (show M20 133 6 ≤ 0 by omega)
        have kbM20 : 0 ≤ M20 131 12 ∧ M20 131 12 ≤ 4 := hI.at (show Bd 131 12 = (0, 4) from rfl)
        refine z_aload_n F dX12_town_72 rfl (q := 0) rfl ?_
        refine zv_v (rest := []) F (kp_X12_readsOn l M20 ⟨hI, hW⟩ (by omega)) cs_X12_127 (T := TX12) (N := 44) (ci := 12) rfl gs_131 (by decide) (by decide) rfl rfl rfl (Nat.le_of_ble_eq_true rfl) dX12_town_73 (fun M27 hI p28 => ?_)
        obtain ⟨hI, hW⟩ := hI
        obtain ⟨fp28, xp28⟩ := p28
        have hF := hF.call fp28 (by decide)
        have tM27_133_6 : M27 133 6 = M20 133 6 := fp28.at (by decide)
        have tM27_133_1 : M27 133 1 = M20 133 1 := fp28.at (by decide)
        have hq9 := wl_fr fp28 (by decide)
        have hL := hq9.2 hL
        have cM27 := hq9.1
        clear hq9
        obtain ⟨qp28_0, qp28_1, qp28_2, qp28_3, qp28_4, qp28_5, qp28_6, qp28_7, qp28_8⟩ := xp28
        have kbM27 : 0 ≤ M27 131 12 ∧ M27 131 12 ≤ 4 := hI.at (show Bd 131 12 = (0, 4) from rfl)
        have hT : Tk M27 := qp28_5
        clear qp28_5
        refine z_aload_n F dX12_town_76 rfl (q := 0) rfl ?_
        refine z_ldcSW (j := 57) F dX12_town_77 rfl rfl rfl ?_
        refine z_eq (st' := [.ref (ad 1057), .ref (ad 131)]) rfl rfl rfl ?_
        refine zv_v (rest := []) F (kp_X12_mustWord_131_1057 l M27 ⟨hI, hW⟩ ⟨by omega, by omega, by omega, by omega, hT⟩) cs_X12_215 (T := TX12) (N := 44) (ci := 12) rfl gs_131 (by decide) (by decide) rfl rfl rfl (Nat.le_of_ble_eq_true rfl) dX12_town_80 (fun M29 hI p30 => ?_)
        obtain ⟨hI, hW⟩ := hI
        obtain ⟨fp30, xp30⟩ := p30
        have hF := hF.call fp30 (by decide)
        have tM29_133_6 : M29 133 6 = M27 133 6 := fp30.at (by decide)
        have tM29_133_1 : M29 133 1 = M27 133 1 := fp30.at (by decide)
        have hq9 := wl_fr fp30 (by decide)
        have hL := hq9.2 hL
        have cM29 := hq9.1
        clear hq9
        obtain ⟨qp30_0, qp30_1, qp30_2, qp30_3, qp30_4, qp30_5, qp30_6, qp30_7, qp30_8⟩ := xp30
        have kbM29 : 0 ≤ M29 131 12 ∧ M29 131 12 ≤ 4 := hI.at (show Bd 131 12 = (0, 4) from rfl)
        have hT : Tk M29 := qp30_7
        clear qp30_7
        have lbqp30_8 : M27 131 12 ≤ 4 * M29 131 12 := by omega
        clear qp30_8
        refine z_aload_n F dX12_town_83 rfl (q := 0) rfl ?_
        refine rf_X12_13 F gs_131 rfl dX12_town_84 ?_
        refine z_iconst F dX12_town_87 ?_
        refine z_aload_n F dX12_town_88 rfl (q := 0) rfl ?_
        refine z_iconst F dX12_town_89 ?_
        refine z_bipush F dX12_town_90 (by decide +kernel) ?_
        refine zv_i (rest := [ii 1, .ref (ad 133)]) F (kp_X12_number l M29 ⟨hI, hW⟩ 1 (by omega) (by omega) 10 (by omega) (by omega) ⟨by omega, by omega, by omega, by omega, hT⟩) cs_X12_199 (T := TX12) (N := 44) (ci := 12) rfl gs_131 (by decide) (by decide) rfl rfl rfl (Nat.le_of_ble_eq_true rfl) dX12_town_92 (fun v31 M32 rv31 hI p33 => ?_)
        obtain ⟨hI, hW⟩ := hI
        obtain ⟨⟨av31, bv31⟩, fp33, xp33⟩ := p33
        have hF := hF.call fp33 (by decide)
        have tM32_133_6 : M32 133 6 = M29 133 6 := fp33.at (by decide)
        have tM32_133_1 : M32 133 1 = M29 133 1 := fp33.at (by decide)
        have hq9 := wl_fr fp33 (by decide)
        have hL := hq9.2 hL
        have cM32 := hq9.1
        clear hq9
        have hkv31 : 1 ≤ v31 ∧ v31 ≤ 10 := by omega
        obtain ⟨qp33_0, qp33_1, qp33_2, qp33_3, qp33_4, qp33_5, qp33_6, qp33_7, qp33_8, qp33_9⟩ := xp33
        have kbM32 : 0 ≤ M32 131 12 ∧ M32 131 12 ≤ 4 := hI.at (show Bd 131 12 = (0, 4) from rfl)
        have hT : Tk M32 := qp33_7
        clear qp33_7
        clear qp33_8
        have lbqp33_9 : M29 131 12 ≤ 4 * M32 131 12 := by omega
        have lpqp33_9 : M29 131 9 + 1 ≤ M32 131 9 + M32 131 12 := by omega
        clear qp33_9
        refine z_iast F hI gs_133 (by omega) (by omega) (by decide) (show Bd 133 1 = (0, 10) from rfl) dX12_town_95 (by omega) (by omega) (fun M35 hI sf34 f34 => ?_)
        have tM35_131_7 : M35 131 7 = M32 131 7 := f34 131 7 (fun q => absurd q.1 (by decide))
        have tM35_131_8 : M35 131 8 = M32 131 8 := f34 131 8 (fun q => absurd q.1 (by decide))
        have tM35_131_9 : M35 131 9 = M32 131 9 := f34 131 9 (fun q => absurd q.1 (by decide))
        have tM35_131_10 : M35 131 10 = M32 131 10 := f34 131 10 (fun q => absurd q.1 (by decide))
        have tM35_131_12 : M35 131 12 = M32 131 12 := f34 131 12 (fun q => absurd q.1 (by decide))
        have tM35_131_16 : M35 131 16 = M32 131 16 := f34 131 16 (fun q => absurd q.1 (by decide))
        have tM35_133_6 : M35 133 6 = M32 133 6 := f34 133 6 (fun q => absurd q.2 (by decide))
        have hT := tk_ws f34 (by decide) hT
        have hq9 := wl_wr f34 (by omega)
        have hL := hq9.2 hL
        have cM35 := hq9.1
        clear hq9
        have hF := hF.wr f34 (by decide) (by decide)
        have hW : WFk M35 := hW.site f34 (by decide)
        have sf34 : M35 133 1 = v31 := sf34
        refine z_aload_n F dX12_town_96 rfl (q := 0) rfl ?_
        refine zv_v (rest := []) F (kp_X12_readStop l M35 ⟨hI, hW⟩ ⟨by omega, by omega, by omega, by omega, hT⟩ (by omega) hL (by omega)) cs_X12_259 (T := TX12) (N := 44) (ci := 12) rfl gs_131 (by decide) (by decide) rfl rfl rfl (Nat.le_of_ble_eq_true rfl) dX12_town_97 (fun M36 hI p37 => ?_)
        obtain ⟨hI, hW⟩ := hI
        obtain ⟨fp37, xp37⟩ := p37
        have hF := hF.call fp37 (by decide)
        obtain ⟨hL, xp37⟩ := xp37
        obtain ⟨qp37_0, qp37_1, qp37_2, qp37_3, qp37_4, qp37_5, qp37_6, qp37_7, qp37_8, qp37_9, qp37_10⟩ := xp37
        have kbM36 : 0 ≤ M36 131 12 ∧ M36 131 12 ≤ 4 := hI.at (show Bd 131 12 = (0, 4) from rfl)
        have hT : Tk M36 := qp37_7
        clear qp37_7
        have lbqp37_10 : M35 131 12 ≤ 4 * M36 131 12 := by omega
        have lpqp37_10 : M35 131 9 + 1 ≤ M36 131 9 + M36 131 12 := by omega
        clear qp37_10
        refine z_loc [0] (ls' := [(0, .ref (ad 131))]) rfl ?_
        have q39 : u25 = M27 131 6 := eu25.trans ((fp28.t6 (by decide)) : M27 131 6 = _).symm
        have q40 : u25 = M29 131 6 := q39.trans ((fp30.t6 (by decide)) : M29 131 6 = _).symm
        have q41 : u25 = M32 131 6 := q40.trans ((fp33.t6 (by decide)) : M32 131 6 = _).symm
        have q42 : u25 = M35 131 6 := q41.trans (f34 131 6 (fun q => absurd q.1 (by decide))).symm
        have q43 : u25 = M36 131 6 := q42.trans ((fp37.t6 (by decide)) : M36 131 6 = _).symm
        suffices key100 : ∀ (n : Nat) (M38 : Mem), Inv M38 → WFk M38 → Fr [131, 132, 133, 231, 232] M M38 → (0 ≤ M38 131 9 ∧ M38 131 9 ≤ M38 131 8 ∧ M38 131 8 ≤ M38 131 7 ∧ M38 131 7 ≤ 900) → (M38 131 16 = 0) → (M38 133 6 ≤ M38 131 9) → (1 ≤ M38 133 1) → (0 ≤ M38 131 12 ∧ M38 131 12 ≤ 4) → (Wl M38) → (Tk M38) → (M38 131 6 = 0) → 4900 - 1000 * M38 131 12 - M38 131 9 < (n : Int) → Z D cy ad p l e (RMh 87) s m args below meth c A 3 0 0 Q 100 [(0, .ref (ad 131))] [] M38 from key100 4901 M36 hI hW hF (by omega) (by omega) (by omega) (by omega) (by omega) hL hT (by omega) (by omega)
        intro n100
        induction n100 with
        | zero => intro M38 hI hW hF i100_0 i100_1 i100_2 i100_3 i100_4 i100_5 i100_6 i100_7 hn100; exfalso; omega
        | succ n100 ih100 =>
          intro M38 hI hW hF i100_0 i100_1 i100_2 i100_3 i100_4 i100_5 i100_6 i100_7 hn100
          obtain ⟨u44, eu44⟩ : ∃ v : Int, v = M38 131 12 := ⟨_, rfl⟩
          have ku44 : 0 ≤ u44 ∧ u44 ≤ 4 := by have := hI.at (show Bd 131 12 = (0, 4) from rfl); omega
          obtain ⟨u45, eu45⟩ : ∃ v : Int, v = M38 131 9 := ⟨_, rfl⟩
          have ku45 : 0 ≤ u45 ∧ u45 ≤ 900 := by have := hI.at (show Bd 131 9 = (0, 900) from rfl); omega
          obtain ⟨u46, eu46⟩ : ∃ v : Int, v = M38 131 6 := ⟨_, rfl⟩
          have ku46 : 0 ≤ u46 ∧ u46 ≤ 900 := by have := hI.at (show Bd 131 6 = (0, 900) from rfl); omega
          have hL := i100_5
          have hT := i100_6
          refine z_aload_n F dX12_town_100 rfl (q := 0) rfl ?_
          refine gf_X12_108 F hI gs_131 rfl bd_131_12 dX12_town_101 (fun v47 ev47 av47 bv47 => ?_)
          have zv47 : u44 = v47 := eu44.trans ev47.symm
          subst zv47
          refine z_if_ne (tgt := 121) F dX12_town_104 (by decide +kernel) (by omega) (fun c48 => ?_) (fun c48 => ?_)
          · refine z_aload_n F dX12_town_121 rfl (q := 0) rfl ?_
            refine z_aload_n F dX12_town_122 rfl (q := 0) rfl ?_
            refine gf_X12_108 F hI gs_131 rfl bd_131_12 dX12_town_123 (fun v49 ev49 av49 bv49 => ?_)
            have zv49 : u44 = v49 := eu44.trans ev49.symm
            subst zv49
            refine pf_X12_270 F hI gs_131 rfl bd_131_14 rfl rfl dX12_town_126 (by omega) (by omega) (fun M51 hI sf50 f50 => ?_)
            have tM51_131_7 : M51 131 7 = M38 131 7 := f50 131 7 (fun q => absurd q.2 (by decide))
            have tM51_131_8 : M51 131 8 = M38 131 8 := f50 131 8 (fun q => absurd q.2 (by decide))
            have tM51_131_9 : M51 131 9 = M38 131 9 := f50 131 9 (fun q => absurd q.2 (by decide))
            have tM51_131_10 : M51 131 10 = M38 131 10 := f50 131 10 (fun q => absurd q.2 (by decide))
            have tM51_131_12 : M51 131 12 = M38 131 12 := f50 131 12 (fun q => absurd q.2 (by decide))
            have tM51_131_16 : M51 131 16 = M38 131 16 := f50 131 16 (fun q => absurd q.2 (by decide))
            have tM51_133_6 : M51 133 6 = M38 133 6 := f50 133 6 (fun q => absurd q.1 (by decide))
            have tM51_133_1 : M51 133 1 = M38 133 1 := f50 133 1 (fun q => absurd q.1 (by decide))
            have hT := tk_eq hT (f50 131 8 (fun q => absurd q.2 (by decide))) (f50 131 9 (fun q => absurd q.2 (by decide))) (f50 131 10 (fun q => absurd q.2 (by decide)))
            have hq9 := wl_ws f50 (by decide)
            have hL := hq9.2 hL
            have cM51 := hq9.1
            clear hq9
            have hF := hF.wrf f50 (by decide) (by decide)
            have hW : WFk M51 := hW.site f50 (by decide)
            refine z_aload_n F dX12_town_129 rfl (q := 0) rfl ?_
            refine z_aload_n F dX12_town_130 rfl (q := 0) rfl ?_
            refine gf_X12_108 F hI gs_131 rfl bd_131_12 dX12_town_131 (fun v52 ev52 av52 bv52 => ?_)
            have q53 : u44 = M51 131 12 := eu44.trans (f50 131 12 (fun q => absurd q.2 (by decide))).symm
            have zv52 : u44 = v52 := q53.trans ev52.symm
            subst zv52
            refine z_if_ne (tgt := 141) F dX12_town_134 (by decide +kernel) (by omega) (fun c54 => ?_) (fun c54 => by exfalso; omega)
            refine z_aload_n F dX12_town_141 rfl (q := 0) rfl ?_
            refine gf_X12_111 F hI gs_131 rfl bd_131_13 dX12_town_142 (fun v55 ev55 av55 bv55 => ?_)
            refine pf_X12_26 F hI gs_131 rfl bd_131_15 rfl rfl dX12_town_145 (by omega) (by omega) (fun M57 hI sf56 f56 => ?_)
            have tM57_131_7 : M57 131 7 = M51 131 7 := f56 131 7 (fun q => absurd q.2 (by decide))
            have tM57_131_8 : M57 131 8 = M51 131 8 := f56 131 8 (fun q => absurd q.2 (by decide))
            have tM57_131_9 : M57 131 9 = M51 131 9 := f56 131 9 (fun q => absurd q.2 (by decide))
            have tM57_131_10 : M57 131 10 = M51 131 10 := f56 131 10 (fun q => absurd q.2 (by decide))
            have tM57_131_12 : M57 131 12 = M51 131 12 := f56 131 12 (fun q => absurd q.2 (by decide))
            have tM57_131_16 : M57 131 16 = M51 131 16 := f56 131 16 (fun q => absurd q.2 (by decide))
            have tM57_133_6 : M57 133 6 = M51 133 6 := f56 133 6 (fun q => absurd q.1 (by decide))
            have tM57_133_1 : M57 133 1 = M51 133 1 := f56 133 1 (fun q => absurd q.1 (by decide))
            have hT := tk_eq hT (f56 131 8 (fun q => absurd q.2 (by decide))) (f56 131 9 (fun q => absurd q.2 (by decide))) (f56 131 10 (fun q => absurd q.2 (by decide)))
            have hq9 := wl_ws f56 (by decide)
            have hL := hq9.2 hL
            have cM57 := hq9.1
            clear hq9
            have hF := hF.wrf f56 (by decide) (by decide)
            have hW : WFk M57 := hW.site f56 (by decide)
            refine z_aload_n F dX12_town_148 rfl (q := 0) rfl ?_
            refine gf_X12_108 F hI gs_131 rfl bd_131_12 dX12_town_149 (fun v58 ev58 av58 bv58 => ?_)
            have q59 : u44 = M57 131 12 := q53.trans (f56 131 12 (fun q => absurd q.2 (by decide))).symm
            have zv58 : u44 = v58 := q59.trans ev58.symm
            subst zv58
            refine z_if_eq (tgt := 163) F dX12_town_152 (by decide +kernel) (by omega) (fun c60 => by exfalso; omega) (fun c60 => ?_)
            refine z_bipush F dX12_town_155 (by decide +kernel) ?_
            refine z_aload_n F dX12_town_157 rfl (q := 0) rfl ?_
            refine gf_X12_108 F hI gs_131 rfl bd_131_12 dX12_town_158 (fun v61 ev61 av61 bv61 => ?_)
            have zv61 : u44 = v61 := q59.trans ev61.symm
            subst zv61
            refine z_isub F dX12_town_161 ?_
            have q62 : u46 = M51 131 6 := eu46.trans (f50 131 6 (fun q => absurd q.2 (by decide))).symm
            have q63 : u46 = M57 131 6 := q62.trans (f56 131 6 (fun q => absurd q.2 (by decide))).symm
            exact hret _ _ 162 _ (by omega) ⟨hI, hW⟩ ⟨⟨by omega, by omega⟩, hF, (by omega)⟩ dX12_town_162
          · refine z_aload_n F dX12_town_107 rfl (q := 0) rfl ?_
            refine gf_X12_88 F hI gs_131 rfl bd_131_10 dX12_town_108 (fun v64 ev64 av64 bv64 => ?_)
            refine z_if_eq (tgt := 121) F dX12_town_111 (by decide +kernel) (by omega) (fun c65 => ?_) (fun c65 => ?_)
            · refine z_aload_n F dX12_town_121 rfl (q := 0) rfl ?_
              refine z_aload_n F dX12_town_122 rfl (q := 0) rfl ?_
              refine gf_X12_108 F hI gs_131 rfl bd_131_12 dX12_town_123 (fun v66 ev66 av66 bv66 => ?_)
              have zv66 : u44 = v66 := eu44.trans ev66.symm
              subst zv66
              refine pf_X12_270 F hI gs_131 rfl bd_131_14 rfl rfl dX12_town_126 (by omega) (by omega) (fun M68 hI sf67 f67 => ?_)
              have tM68_131_7 : M68 131 7 = M38 131 7 := f67 131 7 (fun q => absurd q.2 (by decide))
              have tM68_131_8 : M68 131 8 = M38 131 8 := f67 131 8 (fun q => absurd q.2 (by decide))
              have tM68_131_9 : M68 131 9 = M38 131 9 := f67 131 9 (fun q => absurd q.2 (by decide))
              have tM68_131_10 : M68 131 10 = M38 131 10 := f67 131 10 (fun q => absurd q.2 (by decide))
              have tM68_131_12 : M68 131 12 = M38 131 12 := f67 131 12 (fun q => absurd q.2 (by decide))
              have tM68_131_16 : M68 131 16 = M38 131 16 := f67 131 16 (fun q => absurd q.2 (by decide))
              have tM68_133_6 : M68 133 6 = M38 133 6 := f67 133 6 (fun q => absurd q.1 (by decide))
              have tM68_133_1 : M68 133 1 = M38 133 1 := f67 133 1 (fun q => absurd q.1 (by decide))
              have hT := tk_eq hT (f67 131 8 (fun q => absurd q.2 (by decide))) (f67 131 9 (fun q => absurd q.2 (by decide))) (f67 131 10 (fun q => absurd q.2 (by decide)))
              have hq9 := wl_ws f67 (by decide)
              have hL := hq9.2 hL
              have cM68 := hq9.1
              clear hq9
              have hF := hF.wrf f67 (by decide) (by decide)
              have hW : WFk M68 := hW.site f67 (by decide)
              refine z_aload_n F dX12_town_129 rfl (q := 0) rfl ?_
              refine z_aload_n F dX12_town_130 rfl (q := 0) rfl ?_
              refine gf_X12_108 F hI gs_131 rfl bd_131_12 dX12_town_131 (fun v69 ev69 av69 bv69 => ?_)
              have q70 : u44 = M68 131 12 := eu44.trans (f67 131 12 (fun q => absurd q.2 (by decide))).symm
              have zv69 : u44 = v69 := q70.trans ev69.symm
              subst zv69
              refine z_if_ne (tgt := 141) F dX12_town_134 (by decide +kernel) (by omega) (fun c71 => by exfalso; omega) (fun c71 => ?_)
              refine z_iconst F dX12_town_137 ?_
              refine z_goto (tgt := 145) F dX12_town_138 (by decide +kernel) ?_
              refine pf_X12_26 F hI gs_131 rfl bd_131_15 rfl rfl dX12_town_145 (by omega) (by omega) (fun M73 hI sf72 f72 => ?_)
              have tM73_131_7 : M73 131 7 = M68 131 7 := f72 131 7 (fun q => absurd q.2 (by decide))
              have tM73_131_8 : M73 131 8 = M68 131 8 := f72 131 8 (fun q => absurd q.2 (by decide))
              have tM73_131_9 : M73 131 9 = M68 131 9 := f72 131 9 (fun q => absurd q.2 (by decide))
              have tM73_131_10 : M73 131 10 = M68 131 10 := f72 131 10 (fun q => absurd q.2 (by decide))
              have tM73_131_12 : M73 131 12 = M68 131 12 := f72 131 12 (fun q => absurd q.2 (by decide))
              have tM73_131_16 : M73 131 16 = M68 131 16 := f72 131 16 (fun q => absurd q.2 (by decide))
              have tM73_133_6 : M73 133 6 = M68 133 6 := f72 133 6 (fun q => absurd q.1 (by decide))
              have tM73_133_1 : M73 133 1 = M68 133 1 := f72 133 1 (fun q => absurd q.1 (by decide))
              have hT := tk_eq hT (f72 131 8 (fun q => absurd q.2 (by decide))) (f72 131 9 (fun q => absurd q.2 (by decide))) (f72 131 10 (fun q => absurd q.2 (by decide)))
              have hq9 := wl_ws f72 (by decide)
              have hL := hq9.2 hL
              have cM73 := hq9.1
              clear hq9
              have hF := hF.wrf f72 (by decide) (by decide)
              have hW : WFk M73 := hW.site f72 (by decide)
              refine z_aload_n F dX12_town_148 rfl (q := 0) rfl ?_
              refine gf_X12_108 F hI gs_131 rfl bd_131_12 dX12_town_149 (fun v74 ev74 av74 bv74 => ?_)
              have q75 : u44 = M73 131 12 := q70.trans (f72 131 12 (fun q => absurd q.2 (by decide))).symm
              have zv74 : u44 = v74 := q75.trans ev74.symm
              subst zv74
              refine z_if_eq (tgt := 163) F dX12_town_152 (by decide +kernel) (by omega) (fun c76 => ?_) (fun c76 => by exfalso; omega)
              refine z_iconst F dX12_town_163 ?_
              refine z_istore_n F dX12_town_164 rfl (by decide) (ls' := [(2, ii 0), (0, .ref (ad 131))]) rfl ?_
              refine z_loc [1, 0] (ls' := [(0, .ref (ad 131)), (2, ii 0)]) rfl ?_
              have q79 : u46 = M68 131 6 := eu46.trans (f67 131 6 (fun q => absurd q.2 (by decide))).symm
              have q80 : u46 = M73 131 6 := q79.trans (f72 131 6 (fun q => absurd q.2 (by decide))).symm
              obtain ⟨M0, hM0⟩ : ∃ m : Mem, m = M73 := ⟨_, rfl⟩
              have hW1 : WFk M0 := by rw [hM0]; exact hW
              have hI1 : Inv M0 := by rw [hM0]; exact hI
              have hK : Kn (M0 133) := by rw [hM0]; exact ⟨hL, fun _ => by omega⟩
              suffices key165 : ∀ (n : Nat) (y78 : Int) (M77 : Mem), Inv M77 → Fr [131, 132, 133, 231, 232] M M77 → 0 ≤ y78 → y78 ≤ 1300 → (∀ j : Nat, (j : Int) < y78 → M77 132 j = M0 133 j) → (∀ b : Nat, M77 134 b = M0 134 b) → (∀ b : Nat, M77 133 b = M0 133 b) → (M77 131 6 = 0) → 1300 - y78 < (n : Int) → Z D cy ad p l e (RMh 87) s m args below meth c A 3 0 0 Q 165 [(0, .ref (ad 131)), (2, ii y78)] [] M77 from key165 1301 0 M73 hI hF (by omega) (by omega) (fun j hj => by omega) (fun b => by rw [hM0]) (fun b => by rw [hM0]) (by omega) (by omega)
              intro n165
              induction n165 with
              | zero => intro y78 M77 hI hF ay78 by78 i165_0 i165_1 i165_2 i165_3 hn165; exfalso; omega
              | succ n165 ih165 =>
                intro y78 M77 hI hF ay78 by78 i165_0 i165_1 i165_2 i165_3 hn165
                obtain ⟨u81, eu81⟩ : ∃ v : Int, v = M77 131 6 := ⟨_, rfl⟩
                have ku81 : 0 ≤ u81 ∧ u81 ≤ 900 := by have := hI.at (show Bd 131 6 = (0, 900) from rfl); omega
                refine z_iload_n F dX12_town_165 rfl (q := 1) rfl ?_
                refine z_sipush F dX12_town_166 (by decide +kernel) ?_
                refine z_icmp_ge (tgt := 190) F dX12_town_169 (by decide +kernel) (by omega) (by omega) (fun c82 => ?_) (fun c82 => ?_)
                · have hW : WFk M77 := wf_town hW1 hI1 hK (fun j hj => i165_0 j (by omega)) i165_1
                  refine z_aload_n F dX12_town_190 rfl (q := 0) rfl ?_
                  refine rf_X12_9 F gs_131 rfl dX12_town_191 ?_
                  refine z_iconst F dX12_town_194 ?_
                  refine z_iald F hI gs_132 (by omega) (by omega) (by decide) (show Bd 132 0 = (-2147483648, 2147483647) from rfl) dX12_town_195 (fun v83 (ev83 : v83 = M77 132 0) av83 bv83 => ?_)
                  exact hret _ _ 196 _ (by omega) ⟨hI, hW⟩ ⟨⟨by omega, by omega⟩, hF, (by omega)⟩ dX12_town_196
                · refine z_aload_n F dX12_town_172 rfl (q := 0) rfl ?_
                  refine rf_X12_9 F gs_131 rfl dX12_town_173 ?_
                  refine z_iload_n F dX12_town_176 rfl (q := 1) rfl ?_
                  refine z_aload_n F dX12_town_177 rfl (q := 0) rfl ?_
                  refine rf_X12_13 F gs_131 rfl dX12_town_178 ?_
                  refine z_iload_n F dX12_town_181 rfl (q := 1) rfl ?_
                  refine z_ialdB F hI gs_133 (by omega) (by omega) (by decide) kn_w dX12_town_182 (fun v84 ev84 av84 bv84 rv84 => ?_)
                  refine z_iastB F hI gs_132 (by omega) (by omega) (by decide) dX12_town_183 (bq_in (Eq.trans (rfl : Bd 132 _ = kn _) (Eq.symm (rfl : Bd 133 _ = kn _))) av84 bv84) (fun M86 hI sf85 f85 => ?_)
                  have tM86_131_7 : M86 131 7 = M77 131 7 := f85 131 7 (fun q => absurd q.1 (by decide))
                  have tM86_131_8 : M86 131 8 = M77 131 8 := f85 131 8 (fun q => absurd q.1 (by decide))
                  have tM86_131_9 : M86 131 9 = M77 131 9 := f85 131 9 (fun q => absurd q.1 (by decide))
                  have tM86_131_10 : M86 131 10 = M77 131 10 := f85 131 10 (fun q => absurd q.1 (by decide))
                  have tM86_131_12 : M86 131 12 = M77 131 12 := f85 131 12 (fun q => absurd q.1 (by decide))
                  have tM86_131_16 : M86 131 16 = M77 131 16 := f85 131 16 (fun q => absurd q.1 (by decide))
                  have hF := hF.wrs f85 (by decide) (by decide)
                  refine z_iincN F dX12_town_184 (q := 1) rfl (by decide) (fun v87 ev87 => ?_)
                  refine z_eq (ls' := [(2, ii v87), (0, .ref (ad 131))]) rfl rfl rfl ?_
                  refine z_goto (tgt := 165) F dX12_town_187 (by decide +kernel) ?_
                  refine z_loc [1, 0] (ls' := [(0, .ref (ad 131)), (2, ii v87)]) rfl ?_
                  have q88 : u81 = M86 131 6 := eu81.trans (f85 131 6 (fun q => absurd q.1 (by decide))).symm
                  have nb89 : ∀ j : Nat, (j : Int) < v87 → M86 132 j = M0 133 j := by
                    intro j hj
                    by_cases hq : j = y78.toNat
                    · subst hq; rw [sf85, ← i165_2]; assumption
                    · rw [f85 132 j (fun q => hq q.2)]; exact i165_0 j (by omega)
                  exact ih165 v87 M86 hI hF (by omega) (by omega) nb89 (fun b => (f85 134 b (fun q => absurd q.1 (by decide))).trans (i165_1 b)) (fun b => (f85 133 b (fun q => absurd q.1 (by decide))).trans (i165_2 b)) (by omega) (by omega)
            · refine z_aload_n F dX12_town_114 rfl (q := 0) rfl ?_
              refine zv_v (rest := []) F (kp_X12_readLine l M38 ⟨hI, hW⟩ ⟨by omega, by omega, by omega, by omega, hT⟩ (by omega) hL (by omega)) cs_X12_267 (T := TX12) (N := 44) (ci := 12) rfl gs_131 (by decide) (by decide) rfl rfl rfl (Nat.le_of_ble_eq_true rfl) dX12_town_115 (fun M90 hI p91 => ?_)
              obtain ⟨hI, hW⟩ := hI
              obtain ⟨fp91, xp91⟩ := p91
              have hF := hF.call fp91 (by decide)
              obtain ⟨hL, xp91⟩ := xp91
              obtain ⟨qp91_0, qp91_1, qp91_2, qp91_3, qp91_4, qp91_5, qp91_6, qp91_7, qp91_8, qp91_9, qp91_10⟩ := xp91
              have kbM90 : 0 ≤ M90 131 12 ∧ M90 131 12 ≤ 4 := hI.at (show Bd 131 12 = (0, 4) from rfl)
              have hT : Tk M90 := qp91_7
              clear qp91_7
              have lbqp91_10 : M38 131 12 ≤ 4 * M90 131 12 := by omega
              have lpqp91_10 : M38 131 9 + 1 ≤ M90 131 9 + M90 131 12 := by omega
              clear qp91_10
              refine z_goto (tgt := 100) F dX12_town_118 (by decide +kernel) ?_
              refine z_loc [0] (ls' := [(0, .ref (ad 131))]) rfl ?_
              have q92 : u46 = M90 131 6 := eu46.trans ((fp91.t6 (by decide)) : M90 131 6 = _).symm
              exact ih100 M90 hI hW hF (by omega) (by omega) (by omega) (by omega) (by omega) hL hT (by omega) (by omega)
      · refine z_aload_n F dX12_town_59 rfl (q := 0) rfl ?_
        refine rf_X12_13 F gs_131 rfl dX12_town_60 ?_
        refine z_iload_n F dX12_town_63 rfl (q := 1) rfl ?_
        refine z_iconst F dX12_town_64 ?_
        refine z_iastB F hI gs_133 (by omega) (by omega) (by decide) dX12_town_65 kn_0 (fun M94 hI sf93 f93 => ?_)
        have tM94_131_7 : M94 131 7 = M20 131 7 := f93 131 7 (fun q => absurd q.1 (by decide))
        have tM94_131_8 : M94 131 8 = M20 131 8 := f93 131 8 (fun q => absurd q.1 (by decide))
        have tM94_131_9 : M94 131 9 = M20 131 9 := f93 131 9 (fun q => absurd q.1 (by decide))
        have tM94_131_10 : M94 131 10 = M20 131 10 := f93 131 10 (fun q => absurd q.1 (by decide))
        have tM94_131_12 : M94 131 12 = M20 131 12 := f93 131 12 (fun q => absurd q.1 (by decide))
        have tM94_131_16 : M94 131 16 = M20 131 16 := f93 131 16 (fun q => absurd q.1 (by decide))
        have hF := hF.wr f93 (by decide) (by decide)
        have hW : WFk M94 := hW.site f93 (by decide)
        refine z_iincN F dX12_town_66 (q := 1) rfl (by decide) (fun v95 ev95 => ?_)
        refine z_eq (ls' := [(2, ii v95), (0, .ref (ad 131))]) rfl rfl rfl ?_
        refine z_goto (tgt := 52) F dX12_town_69 (by decide +kernel) ?_
        refine z_loc [1, 0] (ls' := [(0, .ref (ad 131)), (2, ii v95)]) rfl ?_
        have q96 : u25 = M94 131 6 := eu25.trans (f93 131 6 (fun q => absurd q.1 (by decide))).symm
        exact ih52 v95 M94 hI hW hF (by omega) (by omega) (by omega) (by omega) (by omega) (by omega) (fun hq => if h6 : y21 = 6 then (by have h7 := sf93; rw [h6] at h7; exact h7) else (f93 133 6 (fun q => by have := q.2; omega)).trans (i52_4 (by omega))) (by omega) (by omega)
  · refine z_aload_n F dX12_town_19 rfl (q := 0) rfl ?_
    refine z_iconst F dX12_town_20 ?_
    refine zv_i (rest := []) F (k_X12_fails l M3 ⟨hI, hW⟩ 1 (by omega) (by omega)) cs_X12_262 (T := TX12) (N := 44) (ci := 12) rfl gs_131 (by decide) (by decide) rfl rfl rfl (Nat.le_of_ble_eq_true rfl) dX12_town_21 (fun v97 M98 rv97 hI p99 => ?_)
    obtain ⟨hI, hW⟩ := hI
    obtain ⟨⟨av97, bv97⟩, fp99, xp99⟩ := p99
    have hF := hF.call fp99 (by decide)
    have qp99_0 := xp99
    have kbM98 : 0 ≤ M98 131 12 ∧ M98 131 12 ≤ 4 := hI.at (show Bd 131 12 = (0, 4) from rfl)
    have q100 : u1 = M98 131 6 := q5.trans ((fp99.t6 (by decide)) : M98 131 6 = _).symm
    exact hret _ _ 24 _ (by omega) ⟨hI, hW⟩ ⟨⟨by omega, by omega⟩, hF, (by omega)⟩ dX12_town_24
set_option maxHeartbeats 4000000 in
set_option maxRecDepth 4000 in
theorem kp_X6_sortOf (l : Launch) (M : Mem) (hJ : Iw M) (x0 : Int) (hx0a : (-128) ≤ x0) (hx0b : x0 ≤ 127) : CI l yX6_sortOf cX6_sortOf 1 (some .int) 5 (fun ad => [ii x0]) M (fun z M' => (1 ≤ z ∧ z ≤ 4) ∧ M = M') := by
  obtain ⟨hI, hW⟩ := hJ
  refine en_i (by decide +kernel) (fun ad => by exact Nat.le_of_ble_eq_true rfl) (fun D cy ad A p e s m args below meth c Q F hret => ?_)
  refine z_eq (ls' := [(0, ii x0)]) rfl rfl rfl ?_
  refine z_iload_n F dX6_sortOf_0 rfl (q := 0) rfl ?_
  refine z_bipush F dX6_sortOf_1 (by decide +kernel) ?_
  refine z_icmp_lt (tgt := 14) F dX6_sortOf_3 (by decide +kernel) (by omega) (by omega) (fun c1 => ?_) (fun c1 => ?_)
  · refine z_iload_n F dX6_sortOf_14 rfl (q := 0) rfl ?_
    refine z_bipush F dX6_sortOf_15 (by decide +kernel) ?_
    refine z_icmp_lt (tgt := 28) F dX6_sortOf_17 (by decide +kernel) (by omega) (by omega) (fun c2 => ?_) (fun c2 => ?_)
    · refine z_iload_n F dX6_sortOf_28 rfl (q := 0) rfl ?_
      refine z_if_le (tgt := 46) F dX6_sortOf_29 (by decide +kernel) (by omega) (fun c3 => ?_) (fun c3 => ?_)
      · refine z_iconst F dX6_sortOf_46 ?_
        exact hret _ _ 47 _ (by omega) ⟨hI, hW⟩ ⟨⟨by omega, by omega⟩, rfl⟩ dX6_sortOf_47
      · refine z_ldcS (j := 1) F dX6_sortOf_32 rfl rfl rfl ?_
        refine z_eq (st' := [.ref (ad 1001)]) rfl rfl rfl ?_
        refine z_iload_n F dX6_sortOf_34 rfl (q := 0) rfl ?_
        refine z_i2c F dX6_sortOf_35 (fun v4 ev4 av4 => ?_)
        refine zvs_i (i := 1) (rest := []) F (kS_ix l M ⟨hI, hW⟩ 1 (by decide) v4 (by omega)) cs_X6_69 (by decide) (by decide) (by decide) rfl rfl rfl (Nat.le_of_ble_eq_true rfl) dX6_sortOf_36 (fun v5 M9 rv5 hI9 pv5 => ?_)
        obtain ⟨⟨av5, bv5⟩, rfl⟩ := pv5
        rw [show ((sbyt.getD 1 []).length : Int) = 11 from by decide] at bv5
        clear hI9
        refine z_if_lt (tgt := 46) F dX6_sortOf_39 (by decide +kernel) (by omega) (fun c6 => ?_) (fun c6 => ?_)
        · refine z_iconst F dX6_sortOf_46 ?_
          exact hret _ _ 47 _ (by omega) ⟨hI, hW⟩ ⟨⟨by omega, by omega⟩, rfl⟩ dX6_sortOf_47
        · refine z_iconst F dX6_sortOf_42 ?_
          refine z_goto (tgt := 47) F dX6_sortOf_43 (by decide +kernel) ?_
          exact hret _ _ 47 _ (by omega) ⟨hI, hW⟩ ⟨⟨by omega, by omega⟩, rfl⟩ dX6_sortOf_47
    · refine z_iload_n F dX6_sortOf_20 rfl (q := 0) rfl ?_
      refine z_bipush F dX6_sortOf_21 (by decide +kernel) ?_
      refine z_icmp_gt (tgt := 28) F dX6_sortOf_23 (by decide +kernel) (by omega) (by omega) (fun c7 => ?_) (fun c7 => ?_)
      · refine z_iload_n F dX6_sortOf_28 rfl (q := 0) rfl ?_
        refine z_if_le (tgt := 46) F dX6_sortOf_29 (by decide +kernel) (by omega) (fun c8 => by exfalso; omega) (fun c8 => ?_)
        refine z_ldcS (j := 1) F dX6_sortOf_32 rfl rfl rfl ?_
        refine z_eq (st' := [.ref (ad 1001)]) rfl rfl rfl ?_
        refine z_iload_n F dX6_sortOf_34 rfl (q := 0) rfl ?_
        refine z_i2c F dX6_sortOf_35 (fun v9 ev9 av9 => ?_)
        refine zvs_i (i := 1) (rest := []) F (kS_ix l M ⟨hI, hW⟩ 1 (by decide) v9 (by omega)) cs_X6_69 (by decide) (by decide) (by decide) rfl rfl rfl (Nat.le_of_ble_eq_true rfl) dX6_sortOf_36 (fun v10 M9 rv10 hI9 pv10 => ?_)
        obtain ⟨⟨av10, bv10⟩, rfl⟩ := pv10
        rw [show ((sbyt.getD 1 []).length : Int) = 11 from by decide] at bv10
        clear hI9
        refine z_if_lt (tgt := 46) F dX6_sortOf_39 (by decide +kernel) (by omega) (fun c11 => ?_) (fun c11 => ?_)
        · refine z_iconst F dX6_sortOf_46 ?_
          exact hret _ _ 47 _ (by omega) ⟨hI, hW⟩ ⟨⟨by omega, by omega⟩, rfl⟩ dX6_sortOf_47
        · refine z_iconst F dX6_sortOf_42 ?_
          refine z_goto (tgt := 47) F dX6_sortOf_43 (by decide +kernel) ?_
          exact hret _ _ 47 _ (by omega) ⟨hI, hW⟩ ⟨⟨by omega, by omega⟩, rfl⟩ dX6_sortOf_47
      · refine z_iconst F dX6_sortOf_26 ?_
        exact hret _ _ 27 _ (by omega) ⟨hI, hW⟩ ⟨⟨by omega, by omega⟩, rfl⟩ dX6_sortOf_27
  · refine z_iload_n F dX6_sortOf_6 rfl (q := 0) rfl ?_
    refine z_bipush F dX6_sortOf_7 (by decide +kernel) ?_
    refine z_icmp_gt (tgt := 14) F dX6_sortOf_9 (by decide +kernel) (by omega) (by omega) (fun c12 => ?_) (fun c12 => ?_)
    · refine z_iload_n F dX6_sortOf_14 rfl (q := 0) rfl ?_
      refine z_bipush F dX6_sortOf_15 (by decide +kernel) ?_
      refine z_icmp_lt (tgt := 28) F dX6_sortOf_17 (by decide +kernel) (by omega) (by omega) (fun c13 => by exfalso; omega) (fun c13 => ?_)
      refine z_iload_n F dX6_sortOf_20 rfl (q := 0) rfl ?_
      refine z_bipush F dX6_sortOf_21 (by decide +kernel) ?_
      refine z_icmp_gt (tgt := 28) F dX6_sortOf_23 (by decide +kernel) (by omega) (by omega) (fun c14 => ?_) (fun c14 => by exfalso; omega)
      refine z_iload_n F dX6_sortOf_28 rfl (q := 0) rfl ?_
      refine z_if_le (tgt := 46) F dX6_sortOf_29 (by decide +kernel) (by omega) (fun c15 => by exfalso; omega) (fun c15 => ?_)
      refine z_ldcS (j := 1) F dX6_sortOf_32 rfl rfl rfl ?_
      refine z_eq (st' := [.ref (ad 1001)]) rfl rfl rfl ?_
      refine z_iload_n F dX6_sortOf_34 rfl (q := 0) rfl ?_
      refine z_i2c F dX6_sortOf_35 (fun v16 ev16 av16 => ?_)
      refine zvs_i (i := 1) (rest := []) F (kS_ix l M ⟨hI, hW⟩ 1 (by decide) v16 (by omega)) cs_X6_69 (by decide) (by decide) (by decide) rfl rfl rfl (Nat.le_of_ble_eq_true rfl) dX6_sortOf_36 (fun v17 M9 rv17 hI9 pv17 => ?_)
      obtain ⟨⟨av17, bv17⟩, rfl⟩ := pv17
      rw [show ((sbyt.getD 1 []).length : Int) = 11 from by decide] at bv17
      clear hI9
      refine z_if_lt (tgt := 46) F dX6_sortOf_39 (by decide +kernel) (by omega) (fun c18 => ?_) (fun c18 => ?_)
      · refine z_iconst F dX6_sortOf_46 ?_
        exact hret _ _ 47 _ (by omega) ⟨hI, hW⟩ ⟨⟨by omega, by omega⟩, rfl⟩ dX6_sortOf_47
      · refine z_iconst F dX6_sortOf_42 ?_
        refine z_goto (tgt := 47) F dX6_sortOf_43 (by decide +kernel) ?_
        exact hret _ _ 47 _ (by omega) ⟨hI, hW⟩ ⟨⟨by omega, by omega⟩, rfl⟩ dX6_sortOf_47
    · refine z_iconst F dX6_sortOf_12 ?_
      exact hret _ _ 13 _ (by omega) ⟨hI, hW⟩ ⟨⟨by omega, by omega⟩, rfl⟩ dX6_sortOf_13
