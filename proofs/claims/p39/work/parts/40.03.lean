def Tk (M : Mem) : Prop := M 131 10 = 0 ∨ M 131 9 < M 131 8
theorem tk_eq {M M' : Mem} (h : Tk M) (h8 : M' 131 8 = M 131 8) (h9 : M' 131 9 = M 131 9) (h10 : M' 131 10 = M 131 10) : Tk M' := by unfold Tk; rw [h8, h9, h10]; exact h
theorem tk_ws {M M' : Mem} {k j : Nat} (f : ∀ a b, ¬ (a = k ∧ b = j) → M' a b = M a b) (hk : 131 ≠ k) (h : Tk M) : Tk M' := tk_eq h (f _ _ (fun q => hk q.1)) (f _ _ (fun q => hk q.1)) (f _ _ (fun q => hk q.1))
theorem dX12_begins_0 : decode cX12_begins 0 = .ok (.aload_n 0, 1) := by decide +kernel
theorem dX12_begins_1 : decode cX12_begins 1 = .ok (.getfield 13, 3) := by decide +kernel
theorem dX12_begins_10 : decode cX12_begins 10 = .ok (.aload_n 0, 1) := by decide +kernel
theorem dX12_begins_11 : decode cX12_begins 11 = .ok (.iconst 4, 1) := by decide +kernel
theorem dX12_begins_12 : decode cX12_begins 12 = .ok (.invokevirtual 133, 3) := by decide +kernel
theorem dX12_begins_15 : decode cX12_begins 15 = .ok (.aload_n 0, 1) := by decide +kernel
theorem dX12_begins_16 : decode cX12_begins 16 = .ok (.getfield 108, 3) := by decide +kernel
theorem dX12_begins_19 : decode cX12_begins 19 = .ok (.ifCond .ne 7, 3) := by decide +kernel
theorem dX12_begins_22 : decode cX12_begins 22 = .ok (.aload_n 0, 1) := by decide +kernel
theorem dX12_begins_23 : decode cX12_begins 23 = .ok (.invokevirtual 127, 3) := by decide +kernel
theorem dX12_begins_26 : decode cX12_begins 26 = .ok (.aload_n 0, 1) := by decide +kernel
theorem dX12_begins_27 : decode cX12_begins 27 = .ok (.getfield 108, 3) := by decide +kernel
theorem dX12_begins_30 : decode cX12_begins 30 = .ok (.ifCond .ne 7, 3) := by decide +kernel
theorem dX12_begins_33 : decode cX12_begins 33 = .ok (.iconst 1, 1) := by decide +kernel
theorem dX12_begins_34 : decode cX12_begins 34 = .ok (.goto 4, 3) := by decide +kernel
theorem dX12_begins_37 : decode cX12_begins 37 = .ok (.iconst 0, 1) := by decide +kernel
theorem dX12_begins_38 : decode cX12_begins 38 = .ok (.ireturn, 1) := by decide +kernel
theorem dX12_begins_4 : decode cX12_begins 4 = .ok (.iload_n 1, 1) := by decide +kernel
theorem dX12_begins_5 : decode cX12_begins 5 = .ok (.iaload, 1) := by decide +kernel
theorem dX12_begins_6 : decode cX12_begins 6 = .ok (.iload_n 2, 1) := by decide +kernel
theorem dX12_begins_7 : decode cX12_begins 7 = .ok (.if_icmp .ne 8, 3) := by decide +kernel
theorem dX12_mustWord_0 : decode cX12_mustWord 0 = .ok (.aload_n 0, 1) := by decide +kernel
theorem dX12_mustWord_1 : decode cX12_mustWord 1 = .ok (.aload_n 1, 1) := by decide +kernel
theorem dX12_mustWord_10 : decode cX12_mustWord 10 = .ok (.invokevirtual 133, 3) := by decide +kernel
theorem dX12_mustWord_13 : decode cX12_mustWord 13 = .ok (.return_, 1) := by decide +kernel
theorem dX12_mustWord_2 : decode cX12_mustWord 2 = .ok (.invokevirtual 130, 3) := by decide +kernel
theorem dX12_mustWord_5 : decode cX12_mustWord 5 = .ok (.ifCond .ne 8, 3) := by decide +kernel
theorem dX12_mustWord_8 : decode cX12_mustWord 8 = .ok (.aload_n 0, 1) := by decide +kernel
theorem dX12_mustWord_9 : decode cX12_mustWord 9 = .ok (.iconst 2, 1) := by decide +kernel
theorem dX12_number_0 : decode cX12_number 0 = .ok (.aload_n 0, 1) := by decide +kernel
theorem dX12_number_1 : decode cX12_number 1 = .ok (.getfield 88, 3) := by decide +kernel
theorem dX12_number_10 : decode cX12_number 10 = .ok (.invokevirtual 133, 3) := by decide +kernel
theorem dX12_number_13 : decode cX12_number 13 = .ok (.goto 23, 3) := by decide +kernel
theorem dX12_number_16 : decode cX12_number 16 = .ok (.aload_n 0, 1) := by decide +kernel
theorem dX12_number_17 : decode cX12_number 17 = .ok (.getfield 102, 3) := by decide +kernel
theorem dX12_number_20 : decode cX12_number 20 = .ok (.i2l, 1) := by decide +kernel
theorem dX12_number_21 : decode cX12_number 21 = .ok (.iload_n 1, 1) := by decide +kernel
theorem dX12_number_22 : decode cX12_number 22 = .ok (.i2l, 1) := by decide +kernel
theorem dX12_number_23 : decode cX12_number 23 = .ok (.iload_n 2, 1) := by decide +kernel
theorem dX12_number_24 : decode cX12_number 24 = .ok (.i2l, 1) := by decide +kernel
theorem dX12_number_25 : decode cX12_number 25 = .ok (.invokestatic 137, 3) := by decide +kernel
theorem dX12_number_28 : decode cX12_number 28 = .ok (.ifCond .ne 8, 3) := by decide +kernel
theorem dX12_number_31 : decode cX12_number 31 = .ok (.aload_n 0, 1) := by decide +kernel
theorem dX12_number_32 : decode cX12_number 32 = .ok (.iconst 3, 1) := by decide +kernel
theorem dX12_number_33 : decode cX12_number 33 = .ok (.invokevirtual 133, 3) := by decide +kernel
theorem dX12_number_36 : decode cX12_number 36 = .ok (.aload_n 0, 1) := by decide +kernel
theorem dX12_number_37 : decode cX12_number 37 = .ok (.getfield 102, 3) := by decide +kernel
theorem dX12_number_4 : decode cX12_number 4 = .ok (.iconst 2, 1) := by decide +kernel
theorem dX12_number_40 : decode cX12_number 40 = .ok (.istore_n 3, 1) := by decide +kernel
theorem dX12_number_41 : decode cX12_number 41 = .ok (.aload_n 0, 1) := by decide +kernel
theorem dX12_number_42 : decode cX12_number 42 = .ok (.getfield 108, 3) := by decide +kernel
theorem dX12_number_45 : decode cX12_number 45 = .ok (.ifCond .ne 7, 3) := by decide +kernel
theorem dX12_number_48 : decode cX12_number 48 = .ok (.aload_n 0, 1) := by decide +kernel
theorem dX12_number_49 : decode cX12_number 49 = .ok (.invokevirtual 127, 3) := by decide +kernel
theorem dX12_number_5 : decode cX12_number 5 = .ok (.if_icmp .eq 11, 3) := by decide +kernel
theorem dX12_number_52 : decode cX12_number 52 = .ok (.aload_n 0, 1) := by decide +kernel
theorem dX12_number_53 : decode cX12_number 53 = .ok (.getfield 108, 3) := by decide +kernel
theorem dX12_number_56 : decode cX12_number 56 = .ok (.ifCond .ne 7, 3) := by decide +kernel
theorem dX12_number_59 : decode cX12_number 59 = .ok (.iload_n 3, 1) := by decide +kernel
theorem dX12_number_60 : decode cX12_number 60 = .ok (.goto 4, 3) := by decide +kernel
theorem dX12_number_63 : decode cX12_number 63 = .ok (.iload_n 1, 1) := by decide +kernel
theorem dX12_number_64 : decode cX12_number 64 = .ok (.ireturn, 1) := by decide +kernel
theorem dX12_number_8 : decode cX12_number 8 = .ok (.aload_n 0, 1) := by decide +kernel
theorem dX12_number_9 : decode cX12_number 9 = .ok (.iconst 2, 1) := by decide +kernel
theorem dX12_readAtom_0 : decode cX12_readAtom 0 = .ok (.aload_n 0, 1) := by decide +kernel
theorem dX12_readAtom_1 : decode cX12_readAtom 1 = .ok (.getfield 108, 3) := by decide +kernel
theorem dX12_readAtom_12 : decode cX12_readAtom 12 = .ok (.istore_n 1, 1) := by decide +kernel
theorem dX12_readAtom_13 : decode cX12_readAtom 13 = .ok (.iload_n 1, 1) := by decide +kernel
theorem dX12_readAtom_14 : decode cX12_readAtom 14 = .ok (.iconst (-1), 1) := by decide +kernel
theorem dX12_readAtom_15 : decode cX12_readAtom 15 = .ok (.if_icmp .eq 14, 3) := by decide +kernel
theorem dX12_readAtom_18 : decode cX12_readAtom 18 = .ok (.aload_n 0, 1) := by decide +kernel
theorem dX12_readAtom_19 : decode cX12_readAtom 19 = .ok (.bipush 100, 2) := by decide +kernel
theorem dX12_readAtom_21 : decode cX12_readAtom 21 = .ok (.iload_n 1, 1) := by decide +kernel
theorem dX12_readAtom_22 : decode cX12_readAtom 22 = .ok (.iadd, 1) := by decide +kernel
theorem dX12_readAtom_23 : decode cX12_readAtom 23 = .ok (.invokevirtual 149, 3) := by decide +kernel
theorem dX12_readAtom_26 : decode cX12_readAtom 26 = .ok (.goto 57, 3) := by decide +kernel
theorem dX12_readAtom_29 : decode cX12_readAtom 29 = .ok (.aload_n 0, 1) := by decide +kernel
theorem dX12_readAtom_30 : decode cX12_readAtom 30 = .ok (.bipush 40, 2) := by decide +kernel
theorem dX12_readAtom_32 : decode cX12_readAtom 32 = .ok (.invokevirtual 162, 3) := by decide +kernel
theorem dX12_readAtom_35 : decode cX12_readAtom 35 = .ok (.ifCond .eq 30, 3) := by decide +kernel
theorem dX12_readAtom_38 : decode cX12_readAtom 38 = .ok (.aload_n 0, 1) := by decide +kernel
theorem dX12_readAtom_39 : decode cX12_readAtom 39 = .ok (.invokevirtual 159, 3) := by decide +kernel
theorem dX12_readAtom_4 : decode cX12_readAtom 4 = .ok (.ifCond .eq 4, 3) := by decide +kernel
theorem dX12_readAtom_42 : decode cX12_readAtom 42 = .ok (.aload_n 0, 1) := by decide +kernel
theorem dX12_readAtom_43 : decode cX12_readAtom 43 = .ok (.invokevirtual 171, 3) := by decide +kernel
theorem dX12_readAtom_46 : decode cX12_readAtom 46 = .ok (.aload_n 0, 1) := by decide +kernel
theorem dX12_readAtom_47 : decode cX12_readAtom 47 = .ok (.bipush 41, 2) := by decide +kernel
theorem dX12_readAtom_49 : decode cX12_readAtom 49 = .ok (.invokevirtual 168, 3) := by decide +kernel
theorem dX12_readAtom_52 : decode cX12_readAtom 52 = .ok (.aload_n 0, 1) := by decide +kernel
theorem dX12_readAtom_53 : decode cX12_readAtom 53 = .ok (.dup, 1) := by decide +kernel
theorem dX12_readAtom_54 : decode cX12_readAtom 54 = .ok (.getfield 141, 3) := by decide +kernel
theorem dX12_readAtom_57 : decode cX12_readAtom 57 = .ok (.iconst 1, 1) := by decide +kernel
theorem dX12_readAtom_58 : decode cX12_readAtom 58 = .ok (.isub, 1) := by decide +kernel
theorem dX12_readAtom_59 : decode cX12_readAtom 59 = .ok (.putfield 141, 3) := by decide +kernel
theorem dX12_readAtom_62 : decode cX12_readAtom 62 = .ok (.goto 21, 3) := by decide +kernel
theorem dX12_readAtom_65 : decode cX12_readAtom 65 = .ok (.aload_n 0, 1) := by decide +kernel
theorem dX12_readAtom_66 : decode cX12_readAtom 66 = .ok (.iconst 0, 1) := by decide +kernel
theorem dX12_readAtom_67 : decode cX12_readAtom 67 = .ok (.sipush 999, 3) := by decide +kernel
theorem dX12_readAtom_7 : decode cX12_readAtom 7 = .ok (.return_, 1) := by decide +kernel
theorem dX12_readAtom_70 : decode cX12_readAtom 70 = .ok (.invokevirtual 199, 3) := by decide +kernel
theorem dX12_readAtom_73 : decode cX12_readAtom 73 = .ok (.istore_n 2, 1) := by decide +kernel
theorem dX12_readAtom_74 : decode cX12_readAtom 74 = .ok (.aload_n 0, 1) := by decide +kernel
theorem dX12_readAtom_75 : decode cX12_readAtom 75 = .ok (.sipush 1000, 3) := by decide +kernel
theorem dX12_readAtom_78 : decode cX12_readAtom 78 = .ok (.iload_n 2, 1) := by decide +kernel
theorem dX12_readAtom_79 : decode cX12_readAtom 79 = .ok (.iadd, 1) := by decide +kernel
theorem dX12_readAtom_8 : decode cX12_readAtom 8 = .ok (.aload_n 0, 1) := by decide +kernel
theorem dX12_readAtom_80 : decode cX12_readAtom 80 = .ok (.invokevirtual 149, 3) := by decide +kernel
theorem dX12_readAtom_83 : decode cX12_readAtom 83 = .ok (.return_, 1) := by decide +kernel
theorem dX12_readAtom_9 : decode cX12_readAtom 9 = .ok (.invokevirtual 196, 3) := by decide +kernel
theorem dX12_readSum_0 : decode cX12_readSum 0 = .ok (.aload_n 0, 1) := by decide +kernel
theorem dX12_readSum_1 : decode cX12_readSum 1 = .ok (.invokevirtual 174, 3) := by decide +kernel
theorem dX12_readSum_10 : decode cX12_readSum 10 = .ok (.ifCond .ne 12, 3) := by decide +kernel
theorem dX12_readSum_13 : decode cX12_readSum 13 = .ok (.aload_n 0, 1) := by decide +kernel
theorem dX12_readSum_14 : decode cX12_readSum 14 = .ok (.bipush 45, 2) := by decide +kernel
theorem dX12_readSum_16 : decode cX12_readSum 16 = .ok (.invokevirtual 162, 3) := by decide +kernel
theorem dX12_readSum_19 : decode cX12_readSum 19 = .ok (.ifCond .eq 36, 3) := by decide +kernel
theorem dX12_readSum_22 : decode cX12_readSum 22 = .ok (.aload_n 0, 1) := by decide +kernel
theorem dX12_readSum_23 : decode cX12_readSum 23 = .ok (.getfield 88, 3) := by decide +kernel
theorem dX12_readSum_26 : decode cX12_readSum 26 = .ok (.istore_n 1, 1) := by decide +kernel
theorem dX12_readSum_27 : decode cX12_readSum 27 = .ok (.aload_n 0, 1) := by decide +kernel
theorem dX12_readSum_28 : decode cX12_readSum 28 = .ok (.invokevirtual 127, 3) := by decide +kernel
theorem dX12_readSum_31 : decode cX12_readSum 31 = .ok (.aload_n 0, 1) := by decide +kernel
theorem dX12_readSum_32 : decode cX12_readSum 32 = .ok (.invokevirtual 174, 3) := by decide +kernel
theorem dX12_readSum_35 : decode cX12_readSum 35 = .ok (.aload_n 0, 1) := by decide +kernel
theorem dX12_readSum_36 : decode cX12_readSum 36 = .ok (.iload_n 1, 1) := by decide +kernel
theorem dX12_readSum_37 : decode cX12_readSum 37 = .ok (.bipush 43, 2) := by decide +kernel
theorem dX12_readSum_39 : decode cX12_readSum 39 = .ok (.if_icmp .ne 8, 3) := by decide +kernel
theorem dX12_readSum_4 : decode cX12_readSum 4 = .ok (.aload_n 0, 1) := by decide +kernel
theorem dX12_readSum_42 : decode cX12_readSum 42 = .ok (.bipush 10, 2) := by decide +kernel
theorem dX12_readSum_44 : decode cX12_readSum 44 = .ok (.goto 5, 3) := by decide +kernel
theorem dX12_readSum_47 : decode cX12_readSum 47 = .ok (.bipush 11, 2) := by decide +kernel
theorem dX12_readSum_49 : decode cX12_readSum 49 = .ok (.invokevirtual 149, 3) := by decide +kernel
theorem dX12_readSum_5 : decode cX12_readSum 5 = .ok (.bipush 43, 2) := by decide +kernel
theorem dX12_readSum_52 : decode cX12_readSum 52 = .ok (.goto (-48), 3) := by decide +kernel
theorem dX12_readSum_55 : decode cX12_readSum 55 = .ok (.return_, 1) := by decide +kernel
theorem dX12_readSum_7 : decode cX12_readSum 7 = .ok (.invokevirtual 162, 3) := by decide +kernel
theorem dX12_readTerm_0 : decode cX12_readTerm 0 = .ok (.aload_n 0, 1) := by decide +kernel
theorem dX12_readTerm_1 : decode cX12_readTerm 1 = .ok (.invokevirtual 177, 3) := by decide +kernel
theorem dX12_readTerm_10 : decode cX12_readTerm 10 = .ok (.ifCond .eq 20, 3) := by decide +kernel
theorem dX12_readTerm_13 : decode cX12_readTerm 13 = .ok (.aload_n 0, 1) := by decide +kernel
theorem dX12_readTerm_14 : decode cX12_readTerm 14 = .ok (.invokevirtual 127, 3) := by decide +kernel
theorem dX12_readTerm_17 : decode cX12_readTerm 17 = .ok (.aload_n 0, 1) := by decide +kernel
theorem dX12_readTerm_18 : decode cX12_readTerm 18 = .ok (.invokevirtual 177, 3) := by decide +kernel
theorem dX12_readTerm_21 : decode cX12_readTerm 21 = .ok (.aload_n 0, 1) := by decide +kernel
theorem dX12_readTerm_22 : decode cX12_readTerm 22 = .ok (.bipush 12, 2) := by decide +kernel
theorem dX12_readTerm_24 : decode cX12_readTerm 24 = .ok (.invokevirtual 149, 3) := by decide +kernel
theorem dX12_readTerm_27 : decode cX12_readTerm 27 = .ok (.goto (-23), 3) := by decide +kernel
theorem dX12_readTerm_30 : decode cX12_readTerm 30 = .ok (.return_, 1) := by decide +kernel
theorem dX12_readTerm_4 : decode cX12_readTerm 4 = .ok (.aload_n 0, 1) := by decide +kernel
theorem dX12_readTerm_5 : decode cX12_readTerm 5 = .ok (.bipush 42, 2) := by decide +kernel
theorem dX12_readTerm_7 : decode cX12_readTerm 7 = .ok (.invokevirtual 162, 3) := by decide +kernel
theorem dX12_readTouch_0 : decode cX12_readTouch 0 = .ok (.aload_n 0, 1) := by decide +kernel
theorem dX12_readTouch_1 : decode cX12_readTouch 1 = .ok (.iconst 3, 1) := by decide +kernel
theorem dX12_readTouch_10 : decode cX12_readTouch 10 = .ok (.return_, 1) := by decide +kernel
theorem dX12_readTouch_100 : decode cX12_readTouch 100 = .ok (.aload_n 0, 1) := by decide +kernel
theorem dX12_readTouch_101 : decode cX12_readTouch 101 = .ok (.getfield 13, 3) := by decide +kernel
theorem dX12_readTouch_104 : decode cX12_readTouch 104 = .ok (.iconst 1, 1) := by decide +kernel
theorem dX12_readTouch_105 : decode cX12_readTouch 105 = .ok (.iaload, 1) := by decide +kernel
theorem dX12_readTouch_106 : decode cX12_readTouch 106 = .ok (.iconst 1, 1) := by decide +kernel
theorem dX12_readTouch_107 : decode cX12_readTouch 107 = .ok (.isub, 1) := by decide +kernel
theorem dX12_readTouch_108 : decode cX12_readTouch 108 = .ok (.invokevirtual 199, 3) := by decide +kernel
theorem dX12_readTouch_11 : decode cX12_readTouch 11 = .ok (.aload_n 0, 1) := by decide +kernel
theorem dX12_readTouch_111 : decode cX12_readTouch 111 = .ok (.istore_n 3, 1) := by decide +kernel
theorem dX12_readTouch_112 : decode cX12_readTouch 112 = .ok (.aload_n 0, 1) := by decide +kernel
theorem dX12_readTouch_113 : decode cX12_readTouch 113 = .ok (.ldc 194, 2) := by decide +kernel
theorem dX12_readTouch_115 : decode cX12_readTouch 115 = .ok (.invokevirtual 130, 3) := by decide +kernel
theorem dX12_readTouch_118 : decode cX12_readTouch 118 = .ok (.ifCond .eq 7, 3) := by decide +kernel
theorem dX12_readTouch_12 : decode cX12_readTouch 12 = .ok (.iconst 0, 1) := by decide +kernel
theorem dX12_readTouch_121 : decode cX12_readTouch 121 = .ok (.iconst 2, 1) := by decide +kernel
theorem dX12_readTouch_122 : decode cX12_readTouch 122 = .ok (.goto 4, 3) := by decide +kernel
theorem dX12_readTouch_125 : decode cX12_readTouch 125 = .ok (.iconst 1, 1) := by decide +kernel
theorem dX12_readTouch_126 : decode cX12_readTouch 126 = .ok (.istore 4, 2) := by decide +kernel
theorem dX12_readTouch_128 : decode cX12_readTouch 128 = .ok (.aload_n 0, 1) := by decide +kernel
theorem dX12_readTouch_129 : decode cX12_readTouch 129 = .ok (.getfield 108, 3) := by decide +kernel
theorem dX12_readTouch_13 : decode cX12_readTouch 13 = .ok (.aload_n 0, 1) := by decide +kernel
theorem dX12_readTouch_132 : decode cX12_readTouch 132 = .ok (.ifCond .eq 4, 3) := by decide +kernel
theorem dX12_readTouch_135 : decode cX12_readTouch 135 = .ok (.return_, 1) := by decide +kernel
theorem dX12_readTouch_136 : decode cX12_readTouch 136 = .ok (.aload_n 0, 1) := by decide +kernel
theorem dX12_readTouch_137 : decode cX12_readTouch 137 = .ok (.getfield 13, 3) := by decide +kernel
theorem dX12_readTouch_14 : decode cX12_readTouch 14 = .ok (.getfield 13, 3) := by decide +kernel
theorem dX12_readTouch_140 : decode cX12_readTouch 140 = .ok (.bipush 50, 2) := by decide +kernel
theorem dX12_readTouch_142 : decode cX12_readTouch 142 = .ok (.bipush 10, 2) := by decide +kernel
theorem dX12_readTouch_144 : decode cX12_readTouch 144 = .ok (.iload_n 1, 1) := by decide +kernel
theorem dX12_readTouch_145 : decode cX12_readTouch 145 = .ok (.imul, 1) := by decide +kernel
theorem dX12_readTouch_146 : decode cX12_readTouch 146 = .ok (.iadd, 1) := by decide +kernel
theorem dX12_readTouch_147 : decode cX12_readTouch 147 = .ok (.iload_n 3, 1) := by decide +kernel
theorem dX12_readTouch_148 : decode cX12_readTouch 148 = .ok (.iadd, 1) := by decide +kernel
theorem dX12_readTouch_149 : decode cX12_readTouch 149 = .ok (.iload 4, 2) := by decide +kernel
theorem dX12_readTouch_151 : decode cX12_readTouch 151 = .ok (.iastore, 1) := by decide +kernel
theorem dX12_readTouch_152 : decode cX12_readTouch 152 = .ok (.aload_n 0, 1) := by decide +kernel
theorem dX12_readTouch_153 : decode cX12_readTouch 153 = .ok (.getfield 13, 3) := by decide +kernel
theorem dX12_readTouch_156 : decode cX12_readTouch 156 = .ok (.bipush 50, 2) := by decide +kernel
theorem dX12_readTouch_158 : decode cX12_readTouch 158 = .ok (.bipush 10, 2) := by decide +kernel
theorem dX12_readTouch_160 : decode cX12_readTouch 160 = .ok (.iload_n 3, 1) := by decide +kernel
theorem dX12_readTouch_161 : decode cX12_readTouch 161 = .ok (.imul, 1) := by decide +kernel
theorem dX12_readTouch_162 : decode cX12_readTouch 162 = .ok (.iadd, 1) := by decide +kernel
theorem dX12_readTouch_163 : decode cX12_readTouch 163 = .ok (.iload_n 1, 1) := by decide +kernel
theorem dX12_readTouch_164 : decode cX12_readTouch 164 = .ok (.iadd, 1) := by decide +kernel
theorem dX12_readTouch_165 : decode cX12_readTouch 165 = .ok (.iload 4, 2) := by decide +kernel
theorem dX12_readTouch_167 : decode cX12_readTouch 167 = .ok (.iastore, 1) := by decide +kernel
theorem dX12_readTouch_168 : decode cX12_readTouch 168 = .ok (.aload_n 0, 1) := by decide +kernel
theorem dX12_readTouch_169 : decode cX12_readTouch 169 = .ok (.getfield 13, 3) := by decide +kernel
theorem dX12_readTouch_17 : decode cX12_readTouch 17 = .ok (.iconst 1, 1) := by decide +kernel
theorem dX12_readTouch_172 : decode cX12_readTouch 172 = .ok (.iconst 3, 1) := by decide +kernel
theorem dX12_readTouch_173 : decode cX12_readTouch 173 = .ok (.dup2, 1) := by decide +kernel
theorem dX12_readTouch_174 : decode cX12_readTouch 174 = .ok (.iaload, 1) := by decide +kernel
theorem dX12_readTouch_175 : decode cX12_readTouch 175 = .ok (.iconst 1, 1) := by decide +kernel
theorem dX12_readTouch_176 : decode cX12_readTouch 176 = .ok (.iadd, 1) := by decide +kernel
theorem dX12_readTouch_177 : decode cX12_readTouch 177 = .ok (.iastore, 1) := by decide +kernel
theorem dX12_readTouch_178 : decode cX12_readTouch 178 = .ok (.return_, 1) := by decide +kernel
theorem dX12_readTouch_18 : decode cX12_readTouch 18 = .ok (.iaload, 1) := by decide +kernel
theorem dX12_readTouch_19 : decode cX12_readTouch 19 = .ok (.iconst 1, 1) := by decide +kernel
theorem dX12_readTouch_2 : decode cX12_readTouch 2 = .ok (.bipush 20, 2) := by decide +kernel
theorem dX12_readTouch_20 : decode cX12_readTouch 20 = .ok (.isub, 1) := by decide +kernel
theorem dX12_readTouch_21 : decode cX12_readTouch 21 = .ok (.invokevirtual 199, 3) := by decide +kernel
theorem dX12_readTouch_24 : decode cX12_readTouch 24 = .ok (.istore_n 1, 1) := by decide +kernel
theorem dX12_readTouch_25 : decode cX12_readTouch 25 = .ok (.aload_n 0, 1) := by decide +kernel
theorem dX12_readTouch_26 : decode cX12_readTouch 26 = .ok (.getfield 108, 3) := by decide +kernel
theorem dX12_readTouch_29 : decode cX12_readTouch 29 = .ok (.ifCond .ne 58, 3) := by decide +kernel
theorem dX12_readTouch_32 : decode cX12_readTouch 32 = .ok (.aload_n 0, 1) := by decide +kernel
theorem dX12_readTouch_33 : decode cX12_readTouch 33 = .ok (.getfield 88, 3) := by decide +kernel
theorem dX12_readTouch_36 : decode cX12_readTouch 36 = .ok (.iconst 2, 1) := by decide +kernel
theorem dX12_readTouch_37 : decode cX12_readTouch 37 = .ok (.if_icmp .ne 50, 3) := by decide +kernel
theorem dX12_readTouch_4 : decode cX12_readTouch 4 = .ok (.invokevirtual 203, 3) := by decide +kernel
theorem dX12_readTouch_40 : decode cX12_readTouch 40 = .ok (.aload_n 0, 1) := by decide +kernel
theorem dX12_readTouch_41 : decode cX12_readTouch 41 = .ok (.getfield 102, 3) := by decide +kernel
theorem dX12_readTouch_44 : decode cX12_readTouch 44 = .ok (.iload_n 1, 1) := by decide +kernel
theorem dX12_readTouch_45 : decode cX12_readTouch 45 = .ok (.if_icmp .eq 38, 3) := by decide +kernel
theorem dX12_readTouch_48 : decode cX12_readTouch 48 = .ok (.aload_n 0, 1) := by decide +kernel
theorem dX12_readTouch_49 : decode cX12_readTouch 49 = .ok (.getfield 102, 3) := by decide +kernel
theorem dX12_readTouch_52 : decode cX12_readTouch 52 = .ok (.i2l, 1) := by decide +kernel
theorem dX12_readTouch_53 : decode cX12_readTouch 53 = .ok (.lconst 0, 1) := by decide +kernel
theorem dX12_readTouch_54 : decode cX12_readTouch 54 = .ok (.ldc2_w 207, 3) := by decide +kernel
theorem dX12_readTouch_57 : decode cX12_readTouch 57 = .ok (.invokestatic 137, 3) := by decide +kernel
theorem dX12_readTouch_60 : decode cX12_readTouch 60 = .ok (.ifCond .eq 27, 3) := by decide +kernel
theorem dX12_readTouch_63 : decode cX12_readTouch 63 = .ok (.aload_n 0, 1) := by decide +kernel
theorem dX12_readTouch_64 : decode cX12_readTouch 64 = .ok (.getfield 13, 3) := by decide +kernel
theorem dX12_readTouch_67 : decode cX12_readTouch 67 = .ok (.bipush 50, 2) := by decide +kernel
theorem dX12_readTouch_69 : decode cX12_readTouch 69 = .ok (.bipush 10, 2) := by decide +kernel
theorem dX12_readTouch_7 : decode cX12_readTouch 7 = .ok (.ifCond .ne 4, 3) := by decide +kernel
theorem dX12_readTouch_71 : decode cX12_readTouch 71 = .ok (.iload_n 1, 1) := by decide +kernel
theorem dX12_readTouch_72 : decode cX12_readTouch 72 = .ok (.imul, 1) := by decide +kernel
theorem dX12_readTouch_73 : decode cX12_readTouch 73 = .ok (.iadd, 1) := by decide +kernel
theorem dX12_readTouch_74 : decode cX12_readTouch 74 = .ok (.aload_n 0, 1) := by decide +kernel
theorem dX12_readTouch_75 : decode cX12_readTouch 75 = .ok (.getfield 102, 3) := by decide +kernel
theorem dX12_readTouch_78 : decode cX12_readTouch 78 = .ok (.iadd, 1) := by decide +kernel
theorem dX12_readTouch_79 : decode cX12_readTouch 79 = .ok (.iaload, 1) := by decide +kernel
theorem dX12_readTouch_80 : decode cX12_readTouch 80 = .ok (.ifCond .eq 7, 3) := by decide +kernel
theorem dX12_readTouch_83 : decode cX12_readTouch 83 = .ok (.iconst 1, 1) := by decide +kernel
theorem dX12_readTouch_84 : decode cX12_readTouch 84 = .ok (.goto 4, 3) := by decide +kernel
theorem dX12_readTouch_87 : decode cX12_readTouch 87 = .ok (.iconst 0, 1) := by decide +kernel
theorem dX12_readTouch_88 : decode cX12_readTouch 88 = .ok (.istore_n 2, 1) := by decide +kernel
theorem dX12_readTouch_89 : decode cX12_readTouch 89 = .ok (.iload_n 2, 1) := by decide +kernel
theorem dX12_readTouch_90 : decode cX12_readTouch 90 = .ok (.ifCond .eq 8, 3) := by decide +kernel
theorem dX12_readTouch_93 : decode cX12_readTouch 93 = .ok (.aload_n 0, 1) := by decide +kernel
theorem dX12_readTouch_94 : decode cX12_readTouch 94 = .ok (.iconst 3, 1) := by decide +kernel
theorem dX12_readTouch_95 : decode cX12_readTouch 95 = .ok (.invokevirtual 133, 3) := by decide +kernel
theorem dX12_readTouch_98 : decode cX12_readTouch 98 = .ok (.aload_n 0, 1) := by decide +kernel
theorem dX12_readTouch_99 : decode cX12_readTouch 99 = .ok (.iconst 0, 1) := by decide +kernel
theorem dX12_readUnit_0 : decode cX12_readUnit 0 = .ok (.aload_n 0, 1) := by decide +kernel
theorem dX12_readUnit_1 : decode cX12_readUnit 1 = .ok (.getfield 108, 3) := by decide +kernel
theorem dX12_readUnit_101 : decode cX12_readUnit 101 = .ok (.iload_n 1, 1) := by decide +kernel
theorem dX12_readUnit_102 : decode cX12_readUnit 102 = .ok (.bipush 62, 2) := by decide +kernel
theorem dX12_readUnit_104 : decode cX12_readUnit 104 = .ok (.if_icmp .eq 8, 3) := by decide +kernel
theorem dX12_readUnit_107 : decode cX12_readUnit 107 = .ok (.aload_n 0, 1) := by decide +kernel
theorem dX12_readUnit_108 : decode cX12_readUnit 108 = .ok (.iconst 2, 1) := by decide +kernel
theorem dX12_readUnit_109 : decode cX12_readUnit 109 = .ok (.invokevirtual 133, 3) := by decide +kernel
theorem dX12_readUnit_11 : decode cX12_readUnit 11 = .ok (.invokevirtual 123, 3) := by decide +kernel
theorem dX12_readUnit_112 : decode cX12_readUnit 112 = .ok (.aload_n 0, 1) := by decide +kernel
theorem dX12_readUnit_113 : decode cX12_readUnit 113 = .ok (.getfield 108, 3) := by decide +kernel
theorem dX12_readUnit_116 : decode cX12_readUnit 116 = .ok (.ifCond .ne 7, 3) := by decide +kernel
theorem dX12_readUnit_119 : decode cX12_readUnit 119 = .ok (.aload_n 0, 1) := by decide +kernel
theorem dX12_readUnit_120 : decode cX12_readUnit 120 = .ok (.invokevirtual 127, 3) := by decide +kernel
theorem dX12_readUnit_123 : decode cX12_readUnit 123 = .ok (.aload_n 0, 1) := by decide +kernel
theorem dX12_readUnit_124 : decode cX12_readUnit 124 = .ok (.invokevirtual 171, 3) := by decide +kernel
theorem dX12_readUnit_127 : decode cX12_readUnit 127 = .ok (.aload_n 0, 1) := by decide +kernel
theorem dX12_readUnit_128 : decode cX12_readUnit 128 = .ok (.iload_n 1, 1) := by decide +kernel
theorem dX12_readUnit_129 : decode cX12_readUnit 129 = .ok (.bipush 61, 2) := by decide +kernel
theorem dX12_readUnit_131 : decode cX12_readUnit 131 = .ok (.if_icmp .ne 8, 3) := by decide +kernel
theorem dX12_readUnit_134 : decode cX12_readUnit 134 = .ok (.bipush 13, 2) := by decide +kernel
theorem dX12_readUnit_136 : decode cX12_readUnit 136 = .ok (.goto 16, 3) := by decide +kernel
theorem dX12_readUnit_139 : decode cX12_readUnit 139 = .ok (.iload_n 1, 1) := by decide +kernel
theorem dX12_readUnit_14 : decode cX12_readUnit 14 = .ok (.ifCond .eq 30, 3) := by decide +kernel
theorem dX12_readUnit_140 : decode cX12_readUnit 140 = .ok (.bipush 60, 2) := by decide +kernel
theorem dX12_readUnit_142 : decode cX12_readUnit 142 = .ok (.if_icmp .ne 8, 3) := by decide +kernel
theorem dX12_readUnit_145 : decode cX12_readUnit 145 = .ok (.bipush 14, 2) := by decide +kernel
theorem dX12_readUnit_147 : decode cX12_readUnit 147 = .ok (.goto 5, 3) := by decide +kernel
theorem dX12_readUnit_150 : decode cX12_readUnit 150 = .ok (.bipush 15, 2) := by decide +kernel
theorem dX12_readUnit_152 : decode cX12_readUnit 152 = .ok (.invokevirtual 149, 3) := by decide +kernel
theorem dX12_readUnit_155 : decode cX12_readUnit 155 = .ok (.return_, 1) := by decide +kernel
theorem dX12_readUnit_17 : decode cX12_readUnit 17 = .ok (.aload_n 0, 1) := by decide +kernel
theorem dX12_readUnit_18 : decode cX12_readUnit 18 = .ok (.invokevirtual 159, 3) := by decide +kernel
theorem dX12_readUnit_21 : decode cX12_readUnit 21 = .ok (.aload_n 0, 1) := by decide +kernel
theorem dX12_readUnit_22 : decode cX12_readUnit 22 = .ok (.invokevirtual 152, 3) := by decide +kernel
theorem dX12_readUnit_25 : decode cX12_readUnit 25 = .ok (.aload_n 0, 1) := by decide +kernel
theorem dX12_readUnit_26 : decode cX12_readUnit 26 = .ok (.bipush 18, 2) := by decide +kernel
theorem dX12_readUnit_28 : decode cX12_readUnit 28 = .ok (.invokevirtual 149, 3) := by decide +kernel
theorem dX12_readUnit_31 : decode cX12_readUnit 31 = .ok (.aload_n 0, 1) := by decide +kernel
theorem dX12_readUnit_32 : decode cX12_readUnit 32 = .ok (.dup, 1) := by decide +kernel
theorem dX12_readUnit_33 : decode cX12_readUnit 33 = .ok (.getfield 141, 3) := by decide +kernel
theorem dX12_readUnit_36 : decode cX12_readUnit 36 = .ok (.iconst 1, 1) := by decide +kernel
theorem dX12_readUnit_37 : decode cX12_readUnit 37 = .ok (.isub, 1) := by decide +kernel
theorem dX12_readUnit_38 : decode cX12_readUnit 38 = .ok (.putfield 141, 3) := by decide +kernel
theorem dX12_readUnit_4 : decode cX12_readUnit 4 = .ok (.ifCond .eq 4, 3) := by decide +kernel
theorem dX12_readUnit_41 : decode cX12_readUnit 41 = .ok (.goto 114, 3) := by decide +kernel
theorem dX12_readUnit_44 : decode cX12_readUnit 44 = .ok (.aload_n 0, 1) := by decide +kernel
theorem dX12_readUnit_45 : decode cX12_readUnit 45 = .ok (.bipush 91, 2) := by decide +kernel
theorem dX12_readUnit_47 : decode cX12_readUnit 47 = .ok (.invokevirtual 162, 3) := by decide +kernel
theorem dX12_readUnit_50 : decode cX12_readUnit 50 = .ok (.ifCond .eq 30, 3) := by decide +kernel
theorem dX12_readUnit_53 : decode cX12_readUnit 53 = .ok (.aload_n 0, 1) := by decide +kernel
theorem dX12_readUnit_54 : decode cX12_readUnit 54 = .ok (.invokevirtual 159, 3) := by decide +kernel
theorem dX12_readUnit_57 : decode cX12_readUnit 57 = .ok (.aload_n 0, 1) := by decide +kernel
theorem dX12_readUnit_58 : decode cX12_readUnit 58 = .ok (.invokevirtual 165, 3) := by decide +kernel
theorem dX12_readUnit_61 : decode cX12_readUnit 61 = .ok (.aload_n 0, 1) := by decide +kernel
theorem dX12_readUnit_62 : decode cX12_readUnit 62 = .ok (.bipush 93, 2) := by decide +kernel
theorem dX12_readUnit_64 : decode cX12_readUnit 64 = .ok (.invokevirtual 168, 3) := by decide +kernel
theorem dX12_readUnit_67 : decode cX12_readUnit 67 = .ok (.aload_n 0, 1) := by decide +kernel
theorem dX12_readUnit_68 : decode cX12_readUnit 68 = .ok (.dup, 1) := by decide +kernel
theorem dX12_readUnit_69 : decode cX12_readUnit 69 = .ok (.getfield 141, 3) := by decide +kernel
theorem dX12_readUnit_7 : decode cX12_readUnit 7 = .ok (.return_, 1) := by decide +kernel
theorem dX12_readUnit_72 : decode cX12_readUnit 72 = .ok (.iconst 1, 1) := by decide +kernel
theorem dX12_readUnit_73 : decode cX12_readUnit 73 = .ok (.isub, 1) := by decide +kernel
theorem dX12_readUnit_74 : decode cX12_readUnit 74 = .ok (.putfield 141, 3) := by decide +kernel
theorem dX12_readUnit_77 : decode cX12_readUnit 77 = .ok (.goto 78, 3) := by decide +kernel
theorem dX12_readUnit_8 : decode cX12_readUnit 8 = .ok (.aload_n 0, 1) := by decide +kernel
theorem dX12_readUnit_80 : decode cX12_readUnit 80 = .ok (.aload_n 0, 1) := by decide +kernel
theorem dX12_readUnit_81 : decode cX12_readUnit 81 = .ok (.invokevirtual 171, 3) := by decide +kernel
theorem dX12_readUnit_84 : decode cX12_readUnit 84 = .ok (.aload_n 0, 1) := by decide +kernel
theorem dX12_readUnit_85 : decode cX12_readUnit 85 = .ok (.getfield 88, 3) := by decide +kernel
theorem dX12_readUnit_88 : decode cX12_readUnit 88 = .ok (.istore_n 1, 1) := by decide +kernel
theorem dX12_readUnit_89 : decode cX12_readUnit 89 = .ok (.iload_n 1, 1) := by decide +kernel
theorem dX12_readUnit_9 : decode cX12_readUnit 9 = .ok (.ldc 157, 2) := by decide +kernel
theorem dX12_readUnit_90 : decode cX12_readUnit 90 = .ok (.bipush 61, 2) := by decide +kernel
theorem dX12_readUnit_92 : decode cX12_readUnit 92 = .ok (.if_icmp .eq 20, 3) := by decide +kernel
theorem dX12_readUnit_95 : decode cX12_readUnit 95 = .ok (.iload_n 1, 1) := by decide +kernel
theorem dX12_readUnit_96 : decode cX12_readUnit 96 = .ok (.bipush 60, 2) := by decide +kernel
theorem dX12_readUnit_98 : decode cX12_readUnit 98 = .ok (.if_icmp .eq 14, 3) := by decide +kernel
set_option maxHeartbeats 4000000 in
set_option maxRecDepth 4000 in
theorem kp_X12_readUnit (l : Launch) (nr : Nat) (ih : RdR l nr) : ∀ (M : Mem) (hJ : Iw M) (hp0 : 0 ≤ M 131 9 ∧ M 131 9 ≤ M 131 8 ∧ M 131 8 ≤ M 131 7 ∧ M 131 7 ≤ 900 ∧ (M 131 10 = 0 ∨ M 131 9 < M 131 8)) (hp1 : 0 ≤ M 131 16 ∧ (M 131 16 ≤ 6 ∨ M 131 16 = 7 ∧ ¬ M 131 12 = 0)) (hp2 : M 133 6 ≤ M 131 9) (hp3 : ¬ M 131 12 = 0 ∨ 0 ≤ Cu M ∧ Cu M + 2 * (6 - M 131 16) + 4 ≤ 64) (hp4 : Wl M) (hmu : (7 - M 131 16) * 8 + 4 < ((nr + 1 : Nat) : Int)), CV l yX12_readUnit cX12_readUnit 2 none (14 + (nr + 1)) (fun ad => [.ref (ad 131)]) M (fun M' => Fr [131, 133] M M' ∧ (Wl M' ∧ 0 ≤ M' 131 9 ∧ M' 131 9 ≤ M' 131 8 ∧ M' 131 8 ≤ M' 131 7 ∧ M' 131 7 ≤ 900 ∧ (M' 131 10 = 0 ∨ M' 131 9 < M' 131 8) ∧ M' 131 7 = M 131 7 ∧ M' 131 16 = M 131 16 ∧ M 131 9 ≤ M' 131 9 ∧ M' 133 6 + M 131 9 ≤ M 133 6 + M' 131 9 ∧ (M' 131 12 = 0 → M 131 12 = 0 ∧ Cu M' = Cu M + 1) ∧ M' 133 1 = M 133 1)) := by
  intro M hJ hp0 hp1 hp2 hp3 hp4 hmu
  obtain ⟨hI, hW⟩ := hJ
  have hF : Fr [131, 133] M M := Fr.rf
  refine en_v (by decide +kernel) (fun ad => by exact Nat.le_of_ble_eq_true rfl) (fun D cy ad A p e s m args below meth c Q F hret => ?_)
  refine z_eq (ls' := [(0, .ref (ad 131))]) rfl rfl rfl ?_
  have hL := hp4
  refine z_aload_n F dX12_readUnit_0 rfl (q := 0) rfl ?_
  refine gf_X12_108 F hI gs_131 rfl bd_131_12 dX12_readUnit_1 (fun v1 ev1 av1 bv1 => ?_)
  refine z_if_eq (tgt := 8) F dX12_readUnit_4 (by decide +kernel) (by omega) (fun c2 => ?_) (fun c2 => ?_)
  · refine z_aload_n F dX12_readUnit_8 rfl (q := 0) rfl ?_
    refine z_ldcS (j := 74) F dX12_readUnit_9 rfl rfl rfl ?_
    refine z_eq (st' := [.ref (ad 1074), .ref (ad 131)]) rfl rfl rfl ?_
    refine zv_i (rest := []) F (kp_X12_isWord_131_1074 l M ⟨hI, hW⟩ (by omega)) cs_X12_123 (T := TX12) (N := 44) (ci := 12) rfl gs_131 (by omega) (by decide) rfl rfl rfl (Nat.le_of_ble_eq_true rfl) dX12_readUnit_11 (fun v3 M4 rv3 hI p5 => ?_)
    obtain ⟨hI, hW⟩ := hI
    obtain ⟨⟨av3, bv3⟩, rfl, xp5⟩ := p5
    refine z_if_eq (tgt := 44) F dX12_readUnit_14 (by decide +kernel) (by omega) (fun c6 => ?_) (fun c6 => ?_)
    · refine z_aload_n F dX12_readUnit_44 rfl (q := 0) rfl ?_
      refine z_bipush F dX12_readUnit_45 (by decide +kernel) ?_
      refine zv_i (rest := []) F (kp_X12_isSign l M ⟨hI, hW⟩ 91 (by omega) (by omega)) cs_X12_162 (T := TX12) (N := 44) (ci := 12) rfl gs_131 (by omega) (by decide) rfl rfl rfl (Nat.le_of_ble_eq_true rfl) dX12_readUnit_47 (fun v7 M8 rv7 hI p9 => ?_)
      obtain ⟨hI, hW⟩ := hI
      obtain ⟨⟨av7, bv7⟩, rfl, xp9⟩ := p9
      refine z_if_eq (tgt := 80) F dX12_readUnit_50 (by decide +kernel) (by omega) (fun c10 => ?_) (fun c10 => ?_)
      · refine z_aload_n F dX12_readUnit_80 rfl (q := 0) rfl ?_
        refine zv_v (rest := []) F (ih.2.2.2.1 M ⟨hI, hW⟩ (by omega) (by omega) (by omega) (by omega) hL (by omega)) cs_X12_171 (T := TX12) (N := 44) (ci := 12) rfl gs_131 (by omega) (by decide) rfl rfl rfl (Nat.le_of_ble_eq_true rfl) dX12_readUnit_81 (fun M11 hI p12 => ?_)
        obtain ⟨hI, hW⟩ := hI
        obtain ⟨fp12, xp12⟩ := p12
        have hF := hF.call fp12 (by decide)
        obtain ⟨hL, xp12⟩ := xp12
        refine z_aload_n F dX12_readUnit_84 rfl (q := 0) rfl ?_
        refine gf_X12_88 F hI gs_131 rfl bd_131_10 dX12_readUnit_85 (fun v13 ev13 av13 bv13 => ?_)
        refine z_istore_n F dX12_readUnit_88 rfl (by decide) (ls' := [(1, ii v13), (0, .ref (ad 131))]) rfl ?_
        refine z_iload_n F dX12_readUnit_89 rfl (q := 0) rfl ?_
        refine z_bipush F dX12_readUnit_90 (by decide +kernel) ?_
        refine z_icmp_eq (tgt := 112) F dX12_readUnit_92 (by decide +kernel) (by omega) (by omega) (fun c14 => ?_) (fun c14 => ?_)
        · refine z_aload_n F dX12_readUnit_112 rfl (q := 1) rfl ?_
          refine gf_X12_108 F hI gs_131 rfl bd_131_12 dX12_readUnit_113 (fun v15 ev15 av15 bv15 => ?_)
          refine z_if_ne (tgt := 123) F dX12_readUnit_116 (by decide +kernel) (by omega) (fun c16 => ?_) (fun c16 => ?_)
          · refine z_aload_n F dX12_readUnit_123 rfl (q := 1) rfl ?_
            refine zv_v (rest := []) F (ih.2.2.2.1 M11 ⟨hI, hW⟩ (by omega) (by omega) (by omega) (by omega) hL (by omega)) cs_X12_171 (T := TX12) (N := 44) (ci := 12) rfl gs_131 (by omega) (by decide) rfl rfl rfl (Nat.le_of_ble_eq_true rfl) dX12_readUnit_124 (fun M17 hI p18 => ?_)
            obtain ⟨hI, hW⟩ := hI
            obtain ⟨fp18, xp18⟩ := p18
            have hF := hF.call fp18 (by decide)
            obtain ⟨hL, xp18⟩ := xp18
            refine z_aload_n F dX12_readUnit_127 rfl (q := 1) rfl ?_
            refine z_iload_n F dX12_readUnit_128 rfl (q := 0) rfl ?_
            refine z_bipush F dX12_readUnit_129 (by decide +kernel) ?_
            refine z_icmp_ne (tgt := 139) F dX12_readUnit_131 (by decide +kernel) (by omega) (by omega) (fun c19 => by exfalso; omega) (fun c19 => ?_)
            refine z_bipush F dX12_readUnit_134 (by decide +kernel) ?_
            refine z_goto (tgt := 152) F dX12_readUnit_136 (by decide +kernel) ?_
            refine zv_v (rest := []) F (kp_X12_laysStep l M17 ⟨hI, hW⟩ 13 (by omega) (by omega) (by omega) hL (by omega)) cs_X12_149 (T := TX12) (N := 44) (ci := 12) rfl gs_131 (by omega) (by decide) rfl rfl rfl (Nat.le_of_ble_eq_true rfl) dX12_readUnit_152 (fun M20 hI p21 => ?_)
            obtain ⟨hI, hW⟩ := hI
            obtain ⟨fp21, xp21⟩ := p21
            have hF := hF.call fp21 (by decide)
            have tM20_131_7 : M20 131 7 = M17 131 7 := fp21.at (by decide)
            have tM20_131_8 : M20 131 8 = M17 131 8 := fp21.at (by decide)
            have tM20_131_9 : M20 131 9 = M17 131 9 := fp21.at (by decide)
            have tM20_131_10 : M20 131 10 = M17 131 10 := fp21.at (by decide)
            have tM20_131_12 : M20 131 12 = M17 131 12 := fp21.at (by decide)
            have tM20_131_16 : M20 131 16 = M17 131 16 := fp21.at (by decide)
            obtain ⟨hL, xp21⟩ := xp21
            exact hret _ 155 _ ⟨hI, hW⟩ ⟨hF, ⟨hL, by omega⟩⟩ dX12_readUnit_155
          · refine z_aload_n F dX12_readUnit_119 rfl (q := 1) rfl ?_
            refine zv_v (rest := []) F (kp_X12_readsOn l M11 ⟨hI, hW⟩ (by omega)) cs_X12_127 (T := TX12) (N := 44) (ci := 12) rfl gs_131 (by omega) (by decide) rfl rfl rfl (Nat.le_of_ble_eq_true rfl) dX12_readUnit_120 (fun M22 hI p23 => ?_)
            obtain ⟨hI, hW⟩ := hI
            obtain ⟨fp23, xp23⟩ := p23
            have hF := hF.call fp23 (by decide)
            have tM22_133_6 : M22 133 6 = M11 133 6 := fp23.at (by decide)
            have tM22_133_1 : M22 133 1 = M11 133 1 := fp23.at (by decide)
            have hq9 := wl_fr fp23 (by decide)
            have hL := hq9.2 hL
            have cM22 := hq9.1
            clear hq9
            refine z_aload_n F dX12_readUnit_123 rfl (q := 1) rfl ?_
            refine zv_v (rest := []) F (ih.2.2.2.1 M22 ⟨hI, hW⟩ (by omega) (by omega) (by omega) (by omega) hL (by omega)) cs_X12_171 (T := TX12) (N := 44) (ci := 12) rfl gs_131 (by omega) (by decide) rfl rfl rfl (Nat.le_of_ble_eq_true rfl) dX12_readUnit_124 (fun M24 hI p25 => ?_)
            obtain ⟨hI, hW⟩ := hI
            obtain ⟨fp25, xp25⟩ := p25
            have hF := hF.call fp25 (by decide)
            obtain ⟨hL, xp25⟩ := xp25
            refine z_aload_n F dX12_readUnit_127 rfl (q := 1) rfl ?_
            refine z_iload_n F dX12_readUnit_128 rfl (q := 0) rfl ?_
            refine z_bipush F dX12_readUnit_129 (by decide +kernel) ?_
            refine z_icmp_ne (tgt := 139) F dX12_readUnit_131 (by decide +kernel) (by omega) (by omega) (fun c26 => by exfalso; omega) (fun c26 => ?_)
            refine z_bipush F dX12_readUnit_134 (by decide +kernel) ?_
            refine z_goto (tgt := 152) F dX12_readUnit_136 (by decide +kernel) ?_
            refine zv_v (rest := []) F (kp_X12_laysStep l M24 ⟨hI, hW⟩ 13 (by omega) (by omega) (by omega) hL (by omega)) cs_X12_149 (T := TX12) (N := 44) (ci := 12) rfl gs_131 (by omega) (by decide) rfl rfl rfl (Nat.le_of_ble_eq_true rfl) dX12_readUnit_152 (fun M27 hI p28 => ?_)
            obtain ⟨hI, hW⟩ := hI
            obtain ⟨fp28, xp28⟩ := p28
            have hF := hF.call fp28 (by decide)
            have tM27_131_7 : M27 131 7 = M24 131 7 := fp28.at (by decide)
            have tM27_131_8 : M27 131 8 = M24 131 8 := fp28.at (by decide)
            have tM27_131_9 : M27 131 9 = M24 131 9 := fp28.at (by decide)
            have tM27_131_10 : M27 131 10 = M24 131 10 := fp28.at (by decide)
            have tM27_131_12 : M27 131 12 = M24 131 12 := fp28.at (by decide)
            have tM27_131_16 : M27 131 16 = M24 131 16 := fp28.at (by decide)
            obtain ⟨hL, xp28⟩ := xp28
            exact hret _ 155 _ ⟨hI, hW⟩ ⟨hF, ⟨hL, by omega⟩⟩ dX12_readUnit_155
        · refine z_iload_n F dX12_readUnit_95 rfl (q := 0) rfl ?_
          refine z_bipush F dX12_readUnit_96 (by decide +kernel) ?_
          refine z_icmp_eq (tgt := 112) F dX12_readUnit_98 (by decide +kernel) (by omega) (by omega) (fun c29 => ?_) (fun c29 => ?_)
          · refine z_aload_n F dX12_readUnit_112 rfl (q := 1) rfl ?_
            refine gf_X12_108 F hI gs_131 rfl bd_131_12 dX12_readUnit_113 (fun v30 ev30 av30 bv30 => ?_)
            refine z_if_ne (tgt := 123) F dX12_readUnit_116 (by decide +kernel) (by omega) (fun c31 => ?_) (fun c31 => ?_)
            · refine z_aload_n F dX12_readUnit_123 rfl (q := 1) rfl ?_
              refine zv_v (rest := []) F (ih.2.2.2.1 M11 ⟨hI, hW⟩ (by omega) (by omega) (by omega) (by omega) hL (by omega)) cs_X12_171 (T := TX12) (N := 44) (ci := 12) rfl gs_131 (by omega) (by decide) rfl rfl rfl (Nat.le_of_ble_eq_true rfl) dX12_readUnit_124 (fun M32 hI p33 => ?_)
              obtain ⟨hI, hW⟩ := hI
              obtain ⟨fp33, xp33⟩ := p33
              have hF := hF.call fp33 (by decide)
              obtain ⟨hL, xp33⟩ := xp33
              refine z_aload_n F dX12_readUnit_127 rfl (q := 1) rfl ?_
              refine z_iload_n F dX12_readUnit_128 rfl (q := 0) rfl ?_
              refine z_bipush F dX12_readUnit_129 (by decide +kernel) ?_
              refine z_icmp_ne (tgt := 139) F dX12_readUnit_131 (by decide +kernel) (by omega) (by omega) (fun c34 => ?_) (fun c34 => by exfalso; omega)
              refine z_iload_n F dX12_readUnit_139 rfl (q := 0) rfl ?_
              refine z_bipush F dX12_readUnit_140 (by decide +kernel) ?_
              refine z_icmp_ne (tgt := 150) F dX12_readUnit_142 (by decide +kernel) (by omega) (by omega) (fun c35 => by exfalso; omega) (fun c35 => ?_)
              refine z_bipush F dX12_readUnit_145 (by decide +kernel) ?_
              refine z_goto (tgt := 152) F dX12_readUnit_147 (by decide +kernel) ?_
              refine zv_v (rest := []) F (kp_X12_laysStep l M32 ⟨hI, hW⟩ 14 (by omega) (by omega) (by omega) hL (by omega)) cs_X12_149 (T := TX12) (N := 44) (ci := 12) rfl gs_131 (by omega) (by decide) rfl rfl rfl (Nat.le_of_ble_eq_true rfl) dX12_readUnit_152 (fun M36 hI p37 => ?_)
              obtain ⟨hI, hW⟩ := hI
              obtain ⟨fp37, xp37⟩ := p37
              have hF := hF.call fp37 (by decide)
              have tM36_131_7 : M36 131 7 = M32 131 7 := fp37.at (by decide)
              have tM36_131_8 : M36 131 8 = M32 131 8 := fp37.at (by decide)
              have tM36_131_9 : M36 131 9 = M32 131 9 := fp37.at (by decide)
              have tM36_131_10 : M36 131 10 = M32 131 10 := fp37.at (by decide)
              have tM36_131_12 : M36 131 12 = M32 131 12 := fp37.at (by decide)
              have tM36_131_16 : M36 131 16 = M32 131 16 := fp37.at (by decide)
              obtain ⟨hL, xp37⟩ := xp37
              exact hret _ 155 _ ⟨hI, hW⟩ ⟨hF, ⟨hL, by omega⟩⟩ dX12_readUnit_155
            · refine z_aload_n F dX12_readUnit_119 rfl (q := 1) rfl ?_
              refine zv_v (rest := []) F (kp_X12_readsOn l M11 ⟨hI, hW⟩ (by omega)) cs_X12_127 (T := TX12) (N := 44) (ci := 12) rfl gs_131 (by omega) (by decide) rfl rfl rfl (Nat.le_of_ble_eq_true rfl) dX12_readUnit_120 (fun M38 hI p39 => ?_)
              obtain ⟨hI, hW⟩ := hI
              obtain ⟨fp39, xp39⟩ := p39
              have hF := hF.call fp39 (by decide)
              have tM38_133_6 : M38 133 6 = M11 133 6 := fp39.at (by decide)
              have tM38_133_1 : M38 133 1 = M11 133 1 := fp39.at (by decide)
              have hq9 := wl_fr fp39 (by decide)
              have hL := hq9.2 hL
              have cM38 := hq9.1
              clear hq9
              refine z_aload_n F dX12_readUnit_123 rfl (q := 1) rfl ?_
              refine zv_v (rest := []) F (ih.2.2.2.1 M38 ⟨hI, hW⟩ (by omega) (by omega) (by omega) (by omega) hL (by omega)) cs_X12_171 (T := TX12) (N := 44) (ci := 12) rfl gs_131 (by omega) (by decide) rfl rfl rfl (Nat.le_of_ble_eq_true rfl) dX12_readUnit_124 (fun M40 hI p41 => ?_)
              obtain ⟨hI, hW⟩ := hI
              obtain ⟨fp41, xp41⟩ := p41
              have hF := hF.call fp41 (by decide)
              obtain ⟨hL, xp41⟩ := xp41
              refine z_aload_n F dX12_readUnit_127 rfl (q := 1) rfl ?_
              refine z_iload_n F dX12_readUnit_128 rfl (q := 0) rfl ?_
              refine z_bipush F dX12_readUnit_129 (by decide +kernel) ?_
              refine z_icmp_ne (tgt := 139) F dX12_readUnit_131 (by decide +kernel) (by omega) (by omega) (fun c42 => ?_) (fun c42 => by exfalso; omega)
              refine z_iload_n F dX12_readUnit_139 rfl (q := 0) rfl ?_
              refine z_bipush F dX12_readUnit_140 (by decide +kernel) ?_
              refine z_icmp_ne (tgt := 150) F dX12_readUnit_142 (by decide +kernel) (by omega) (by omega) (fun c43 => by exfalso; omega) (fun c43 => ?_)
              refine z_bipush F dX12_readUnit_145 (by decide +kernel) ?_
              refine z_goto (tgt := 152) F dX12_readUnit_147 (by decide +kernel) ?_
              refine zv_v (rest := []) F (kp_X12_laysStep l M40 ⟨hI, hW⟩ 14 (by omega) (by omega) (by omega) hL (by omega)) cs_X12_149 (T := TX12) (N := 44) (ci := 12) rfl gs_131 (by omega) (by decide) rfl rfl rfl (Nat.le_of_ble_eq_true rfl) dX12_readUnit_152 (fun M44 hI p45 => ?_)
              obtain ⟨hI, hW⟩ := hI
              obtain ⟨fp45, xp45⟩ := p45
              have hF := hF.call fp45 (by decide)
              have tM44_131_7 : M44 131 7 = M40 131 7 := fp45.at (by decide)
              have tM44_131_8 : M44 131 8 = M40 131 8 := fp45.at (by decide)
              have tM44_131_9 : M44 131 9 = M40 131 9 := fp45.at (by decide)
              have tM44_131_10 : M44 131 10 = M40 131 10 := fp45.at (by decide)
              have tM44_131_12 : M44 131 12 = M40 131 12 := fp45.at (by decide)
              have tM44_131_16 : M44 131 16 = M40 131 16 := fp45.at (by decide)
              obtain ⟨hL, xp45⟩ := xp45
              exact hret _ 155 _ ⟨hI, hW⟩ ⟨hF, ⟨hL, by omega⟩⟩ dX12_readUnit_155
          · refine z_iload_n F dX12_readUnit_101 rfl (q := 0) rfl ?_
            refine z_bipush F dX12_readUnit_102 (by decide +kernel) ?_
            refine z_icmp_eq (tgt := 112) F dX12_readUnit_104 (by decide +kernel) (by omega) (by omega) (fun c46 => ?_) (fun c46 => ?_)
            · refine z_aload_n F dX12_readUnit_112 rfl (q := 1) rfl ?_
              refine gf_X12_108 F hI gs_131 rfl bd_131_12 dX12_readUnit_113 (fun v47 ev47 av47 bv47 => ?_)
              refine z_if_ne (tgt := 123) F dX12_readUnit_116 (by decide +kernel) (by omega) (fun c48 => ?_) (fun c48 => ?_)
              · refine z_aload_n F dX12_readUnit_123 rfl (q := 1) rfl ?_
                refine zv_v (rest := []) F (ih.2.2.2.1 M11 ⟨hI, hW⟩ (by omega) (by omega) (by omega) (by omega) hL (by omega)) cs_X12_171 (T := TX12) (N := 44) (ci := 12) rfl gs_131 (by omega) (by decide) rfl rfl rfl (Nat.le_of_ble_eq_true rfl) dX12_readUnit_124 (fun M49 hI p50 => ?_)
                obtain ⟨hI, hW⟩ := hI
                obtain ⟨fp50, xp50⟩ := p50
                have hF := hF.call fp50 (by decide)
                obtain ⟨hL, xp50⟩ := xp50
                refine z_aload_n F dX12_readUnit_127 rfl (q := 1) rfl ?_
                refine z_iload_n F dX12_readUnit_128 rfl (q := 0) rfl ?_
                refine z_bipush F dX12_readUnit_129 (by decide +kernel) ?_
                refine z_icmp_ne (tgt := 139) F dX12_readUnit_131 (by decide +kernel) (by omega) (by omega) (fun c51 => ?_) (fun c51 => by exfalso; omega)
                refine z_iload_n F dX12_readUnit_139 rfl (q := 0) rfl ?_
                refine z_bipush F dX12_readUnit_140 (by decide +kernel) ?_
                refine z_icmp_ne (tgt := 150) F dX12_readUnit_142 (by decide +kernel) (by omega) (by omega) (fun c52 => ?_) (fun c52 => by exfalso; omega)
                refine z_bipush F dX12_readUnit_150 (by decide +kernel) ?_
                refine zv_v (rest := []) F (kp_X12_laysStep l M49 ⟨hI, hW⟩ 15 (by omega) (by omega) (by omega) hL (by omega)) cs_X12_149 (T := TX12) (N := 44) (ci := 12) rfl gs_131 (by omega) (by decide) rfl rfl rfl (Nat.le_of_ble_eq_true rfl) dX12_readUnit_152 (fun M53 hI p54 => ?_)
                obtain ⟨hI, hW⟩ := hI
                obtain ⟨fp54, xp54⟩ := p54
                have hF := hF.call fp54 (by decide)
                have tM53_131_7 : M53 131 7 = M49 131 7 := fp54.at (by decide)
                have tM53_131_8 : M53 131 8 = M49 131 8 := fp54.at (by decide)
                have tM53_131_9 : M53 131 9 = M49 131 9 := fp54.at (by decide)
                have tM53_131_10 : M53 131 10 = M49 131 10 := fp54.at (by decide)
                have tM53_131_12 : M53 131 12 = M49 131 12 := fp54.at (by decide)
                have tM53_131_16 : M53 131 16 = M49 131 16 := fp54.at (by decide)
                obtain ⟨hL, xp54⟩ := xp54
                exact hret _ 155 _ ⟨hI, hW⟩ ⟨hF, ⟨hL, by omega⟩⟩ dX12_readUnit_155
              · refine z_aload_n F dX12_readUnit_119 rfl (q := 1) rfl ?_
                refine zv_v (rest := []) F (kp_X12_readsOn l M11 ⟨hI, hW⟩ (by omega)) cs_X12_127 (T := TX12) (N := 44) (ci := 12) rfl gs_131 (by omega) (by decide) rfl rfl rfl (Nat.le_of_ble_eq_true rfl) dX12_readUnit_120 (fun M55 hI p56 => ?_)
                obtain ⟨hI, hW⟩ := hI
                obtain ⟨fp56, xp56⟩ := p56
                have hF := hF.call fp56 (by decide)
                have tM55_133_6 : M55 133 6 = M11 133 6 := fp56.at (by decide)
                have tM55_133_1 : M55 133 1 = M11 133 1 := fp56.at (by decide)
                have hq9 := wl_fr fp56 (by decide)
                have hL := hq9.2 hL
                have cM55 := hq9.1
                clear hq9
                refine z_aload_n F dX12_readUnit_123 rfl (q := 1) rfl ?_
                refine zv_v (rest := []) F (ih.2.2.2.1 M55 ⟨hI, hW⟩ (by omega) (by omega) (by omega) (by omega) hL (by omega)) cs_X12_171 (T := TX12) (N := 44) (ci := 12) rfl gs_131 (by omega) (by decide) rfl rfl rfl (Nat.le_of_ble_eq_true rfl) dX12_readUnit_124 (fun M57 hI p58 => ?_)
                obtain ⟨hI, hW⟩ := hI
                obtain ⟨fp58, xp58⟩ := p58
                have hF := hF.call fp58 (by decide)
                obtain ⟨hL, xp58⟩ := xp58
                refine z_aload_n F dX12_readUnit_127 rfl (q := 1) rfl ?_
                refine z_iload_n F dX12_readUnit_128 rfl (q := 0) rfl ?_
                refine z_bipush F dX12_readUnit_129 (by decide +kernel) ?_
                refine z_icmp_ne (tgt := 139) F dX12_readUnit_131 (by decide +kernel) (by omega) (by omega) (fun c59 => ?_) (fun c59 => by exfalso; omega)
                refine z_iload_n F dX12_readUnit_139 rfl (q := 0) rfl ?_
                refine z_bipush F dX12_readUnit_140 (by decide +kernel) ?_
                refine z_icmp_ne (tgt := 150) F dX12_readUnit_142 (by decide +kernel) (by omega) (by omega) (fun c60 => ?_) (fun c60 => by exfalso; omega)
                refine z_bipush F dX12_readUnit_150 (by decide +kernel) ?_
                refine zv_v (rest := []) F (kp_X12_laysStep l M57 ⟨hI, hW⟩ 15 (by omega) (by omega) (by omega) hL (by omega)) cs_X12_149 (T := TX12) (N := 44) (ci := 12) rfl gs_131 (by omega) (by decide) rfl rfl rfl (Nat.le_of_ble_eq_true rfl) dX12_readUnit_152 (fun M61 hI p62 => ?_)
                obtain ⟨hI, hW⟩ := hI
                obtain ⟨fp62, xp62⟩ := p62
                have hF := hF.call fp62 (by decide)
                have tM61_131_7 : M61 131 7 = M57 131 7 := fp62.at (by decide)
                have tM61_131_8 : M61 131 8 = M57 131 8 := fp62.at (by decide)
                have tM61_131_9 : M61 131 9 = M57 131 9 := fp62.at (by decide)
                have tM61_131_10 : M61 131 10 = M57 131 10 := fp62.at (by decide)
                have tM61_131_12 : M61 131 12 = M57 131 12 := fp62.at (by decide)
                have tM61_131_16 : M61 131 16 = M57 131 16 := fp62.at (by decide)
                obtain ⟨hL, xp62⟩ := xp62
                exact hret _ 155 _ ⟨hI, hW⟩ ⟨hF, ⟨hL, by omega⟩⟩ dX12_readUnit_155
            · refine z_aload_n F dX12_readUnit_107 rfl (q := 1) rfl ?_
              refine z_iconst F dX12_readUnit_108 ?_
              refine zv_v (rest := []) F (kp_X12_blames l M11 ⟨hI, hW⟩ 2 (by omega) (by omega)) cs_X12_133 (T := TX12) (N := 44) (ci := 12) rfl gs_131 (by omega) (by decide) rfl rfl rfl (Nat.le_of_ble_eq_true rfl) dX12_readUnit_109 (fun M63 hI p64 => ?_)
              obtain ⟨hI, hW⟩ := hI
              obtain ⟨fp64, xp64⟩ := p64
              have hF := hF.call fp64 (by decide)
              have tM63_133_6 : M63 133 6 = M11 133 6 := fp64.at (by decide)
              have tM63_133_1 : M63 133 1 = M11 133 1 := fp64.at (by decide)
              have hq9 := wl_fr fp64 (by decide)
              have hL := hq9.2 hL
              have cM63 := hq9.1
              clear hq9
              refine z_aload_n F dX12_readUnit_112 rfl (q := 1) rfl ?_
              refine gf_X12_108 F hI gs_131 rfl bd_131_12 dX12_readUnit_113 (fun v65 ev65 av65 bv65 => ?_)
              refine z_if_ne (tgt := 123) F dX12_readUnit_116 (by decide +kernel) (by omega) (fun c66 => ?_) (fun c66 => ?_)
              · refine z_aload_n F dX12_readUnit_123 rfl (q := 1) rfl ?_
                refine zv_v (rest := []) F (ih.2.2.2.1 M63 ⟨hI, hW⟩ (by omega) (by omega) (by omega) (by omega) hL (by omega)) cs_X12_171 (T := TX12) (N := 44) (ci := 12) rfl gs_131 (by omega) (by decide) rfl rfl rfl (Nat.le_of_ble_eq_true rfl) dX12_readUnit_124 (fun M67 hI p68 => ?_)
                obtain ⟨hI, hW⟩ := hI
                obtain ⟨fp68, xp68⟩ := p68
                have hF := hF.call fp68 (by decide)
                obtain ⟨hL, xp68⟩ := xp68
                refine z_aload_n F dX12_readUnit_127 rfl (q := 1) rfl ?_
                refine z_iload_n F dX12_readUnit_128 rfl (q := 0) rfl ?_
                refine z_bipush F dX12_readUnit_129 (by decide +kernel) ?_
                refine z_icmp_ne (tgt := 139) F dX12_readUnit_131 (by decide +kernel) (by omega) (by omega) (fun c69 => ?_) (fun c69 => ?_)
                · refine z_iload_n F dX12_readUnit_139 rfl (q := 0) rfl ?_
                  refine z_bipush F dX12_readUnit_140 (by decide +kernel) ?_
                  refine z_icmp_ne (tgt := 150) F dX12_readUnit_142 (by decide +kernel) (by omega) (by omega) (fun c70 => ?_) (fun c70 => ?_)
                  · refine z_bipush F dX12_readUnit_150 (by decide +kernel) ?_
                    refine zv_v (rest := []) F (kp_X12_laysStep l M67 ⟨hI, hW⟩ 15 (by omega) (by omega) (by omega) hL (by omega)) cs_X12_149 (T := TX12) (N := 44) (ci := 12) rfl gs_131 (by omega) (by decide) rfl rfl rfl (Nat.le_of_ble_eq_true rfl) dX12_readUnit_152 (fun M71 hI p72 => ?_)
                    obtain ⟨hI, hW⟩ := hI
                    obtain ⟨fp72, xp72⟩ := p72
                    have hF := hF.call fp72 (by decide)
                    have tM71_131_7 : M71 131 7 = M67 131 7 := fp72.at (by decide)
                    have tM71_131_8 : M71 131 8 = M67 131 8 := fp72.at (by decide)
                    have tM71_131_9 : M71 131 9 = M67 131 9 := fp72.at (by decide)
                    have tM71_131_10 : M71 131 10 = M67 131 10 := fp72.at (by decide)
                    have tM71_131_12 : M71 131 12 = M67 131 12 := fp72.at (by decide)
                    have tM71_131_16 : M71 131 16 = M67 131 16 := fp72.at (by decide)
                    obtain ⟨hL, xp72⟩ := xp72
                    exact hret _ 155 _ ⟨hI, hW⟩ ⟨hF, ⟨hL, by omega⟩⟩ dX12_readUnit_155
                  · refine z_bipush F dX12_readUnit_145 (by decide +kernel) ?_
                    refine z_goto (tgt := 152) F dX12_readUnit_147 (by decide +kernel) ?_
                    refine zv_v (rest := []) F (kp_X12_laysStep l M67 ⟨hI, hW⟩ 14 (by omega) (by omega) (by omega) hL (by omega)) cs_X12_149 (T := TX12) (N := 44) (ci := 12) rfl gs_131 (by omega) (by decide) rfl rfl rfl (Nat.le_of_ble_eq_true rfl) dX12_readUnit_152 (fun M73 hI p74 => ?_)
                    obtain ⟨hI, hW⟩ := hI
                    obtain ⟨fp74, xp74⟩ := p74
                    have hF := hF.call fp74 (by decide)
                    have tM73_131_7 : M73 131 7 = M67 131 7 := fp74.at (by decide)
                    have tM73_131_8 : M73 131 8 = M67 131 8 := fp74.at (by decide)
                    have tM73_131_9 : M73 131 9 = M67 131 9 := fp74.at (by decide)
                    have tM73_131_10 : M73 131 10 = M67 131 10 := fp74.at (by decide)
                    have tM73_131_12 : M73 131 12 = M67 131 12 := fp74.at (by decide)
                    have tM73_131_16 : M73 131 16 = M67 131 16 := fp74.at (by decide)
                    obtain ⟨hL, xp74⟩ := xp74
                    exact hret _ 155 _ ⟨hI, hW⟩ ⟨hF, ⟨hL, by omega⟩⟩ dX12_readUnit_155
                · refine z_bipush F dX12_readUnit_134 (by decide +kernel) ?_
                  refine z_goto (tgt := 152) F dX12_readUnit_136 (by decide +kernel) ?_
                  refine zv_v (rest := []) F (kp_X12_laysStep l M67 ⟨hI, hW⟩ 13 (by omega) (by omega) (by omega) hL (by omega)) cs_X12_149 (T := TX12) (N := 44) (ci := 12) rfl gs_131 (by omega) (by decide) rfl rfl rfl (Nat.le_of_ble_eq_true rfl) dX12_readUnit_152 (fun M75 hI p76 => ?_)
                  obtain ⟨hI, hW⟩ := hI
                  obtain ⟨fp76, xp76⟩ := p76
                  have hF := hF.call fp76 (by decide)
                  have tM75_131_7 : M75 131 7 = M67 131 7 := fp76.at (by decide)
                  have tM75_131_8 : M75 131 8 = M67 131 8 := fp76.at (by decide)
                  have tM75_131_9 : M75 131 9 = M67 131 9 := fp76.at (by decide)
                  have tM75_131_10 : M75 131 10 = M67 131 10 := fp76.at (by decide)
                  have tM75_131_12 : M75 131 12 = M67 131 12 := fp76.at (by decide)
                  have tM75_131_16 : M75 131 16 = M67 131 16 := fp76.at (by decide)
                  obtain ⟨hL, xp76⟩ := xp76
                  exact hret _ 155 _ ⟨hI, hW⟩ ⟨hF, ⟨hL, by omega⟩⟩ dX12_readUnit_155
              · refine z_aload_n F dX12_readUnit_119 rfl (q := 1) rfl ?_
                refine zv_v (rest := []) F (kp_X12_readsOn l M63 ⟨hI, hW⟩ (by omega)) cs_X12_127 (T := TX12) (N := 44) (ci := 12) rfl gs_131 (by omega) (by decide) rfl rfl rfl (Nat.le_of_ble_eq_true rfl) dX12_readUnit_120 (fun M77 hI p78 => ?_)
                obtain ⟨hI, hW⟩ := hI
                obtain ⟨fp78, xp78⟩ := p78
                have hF := hF.call fp78 (by decide)
                have tM77_133_6 : M77 133 6 = M63 133 6 := fp78.at (by decide)
                have tM77_133_1 : M77 133 1 = M63 133 1 := fp78.at (by decide)
                have hq9 := wl_fr fp78 (by decide)
                have hL := hq9.2 hL
                have cM77 := hq9.1
                clear hq9
                refine z_aload_n F dX12_readUnit_123 rfl (q := 1) rfl ?_
                refine zv_v (rest := []) F (ih.2.2.2.1 M77 ⟨hI, hW⟩ (by omega) (by omega) (by omega) (by omega) hL (by omega)) cs_X12_171 (T := TX12) (N := 44) (ci := 12) rfl gs_131 (by omega) (by decide) rfl rfl rfl (Nat.le_of_ble_eq_true rfl) dX12_readUnit_124 (fun M79 hI p80 => ?_)
                obtain ⟨hI, hW⟩ := hI
                obtain ⟨fp80, xp80⟩ := p80
                have hF := hF.call fp80 (by decide)
                obtain ⟨hL, xp80⟩ := xp80
                refine z_aload_n F dX12_readUnit_127 rfl (q := 1) rfl ?_
                refine z_iload_n F dX12_readUnit_128 rfl (q := 0) rfl ?_
                refine z_bipush F dX12_readUnit_129 (by decide +kernel) ?_
                refine z_icmp_ne (tgt := 139) F dX12_readUnit_131 (by decide +kernel) (by omega) (by omega) (fun c81 => ?_) (fun c81 => ?_)
                · refine z_iload_n F dX12_readUnit_139 rfl (q := 0) rfl ?_
                  refine z_bipush F dX12_readUnit_140 (by decide +kernel) ?_
                  refine z_icmp_ne (tgt := 150) F dX12_readUnit_142 (by decide +kernel) (by omega) (by omega) (fun c82 => ?_) (fun c82 => ?_)
                  · refine z_bipush F dX12_readUnit_150 (by decide +kernel) ?_
                    refine zv_v (rest := []) F (kp_X12_laysStep l M79 ⟨hI, hW⟩ 15 (by omega) (by omega) (by omega) hL (by omega)) cs_X12_149 (T := TX12) (N := 44) (ci := 12) rfl gs_131 (by omega) (by decide) rfl rfl rfl (Nat.le_of_ble_eq_true rfl) dX12_readUnit_152 (fun M83 hI p84 => ?_)
                    obtain ⟨hI, hW⟩ := hI
                    obtain ⟨fp84, xp84⟩ := p84
                    have hF := hF.call fp84 (by decide)
                    have tM83_131_7 : M83 131 7 = M79 131 7 := fp84.at (by decide)
                    have tM83_131_8 : M83 131 8 = M79 131 8 := fp84.at (by decide)
                    have tM83_131_9 : M83 131 9 = M79 131 9 := fp84.at (by decide)
                    have tM83_131_10 : M83 131 10 = M79 131 10 := fp84.at (by decide)
                    have tM83_131_12 : M83 131 12 = M79 131 12 := fp84.at (by decide)
                    have tM83_131_16 : M83 131 16 = M79 131 16 := fp84.at (by decide)
                    obtain ⟨hL, xp84⟩ := xp84
                    exact hret _ 155 _ ⟨hI, hW⟩ ⟨hF, ⟨hL, by omega⟩⟩ dX12_readUnit_155
                  · refine z_bipush F dX12_readUnit_145 (by decide +kernel) ?_
                    refine z_goto (tgt := 152) F dX12_readUnit_147 (by decide +kernel) ?_
                    refine zv_v (rest := []) F (kp_X12_laysStep l M79 ⟨hI, hW⟩ 14 (by omega) (by omega) (by omega) hL (by omega)) cs_X12_149 (T := TX12) (N := 44) (ci := 12) rfl gs_131 (by omega) (by decide) rfl rfl rfl (Nat.le_of_ble_eq_true rfl) dX12_readUnit_152 (fun M85 hI p86 => ?_)
                    obtain ⟨hI, hW⟩ := hI
                    obtain ⟨fp86, xp86⟩ := p86
                    have hF := hF.call fp86 (by decide)
                    have tM85_131_7 : M85 131 7 = M79 131 7 := fp86.at (by decide)
                    have tM85_131_8 : M85 131 8 = M79 131 8 := fp86.at (by decide)
                    have tM85_131_9 : M85 131 9 = M79 131 9 := fp86.at (by decide)
                    have tM85_131_10 : M85 131 10 = M79 131 10 := fp86.at (by decide)
                    have tM85_131_12 : M85 131 12 = M79 131 12 := fp86.at (by decide)
                    have tM85_131_16 : M85 131 16 = M79 131 16 := fp86.at (by decide)
                    obtain ⟨hL, xp86⟩ := xp86
                    exact hret _ 155 _ ⟨hI, hW⟩ ⟨hF, ⟨hL, by omega⟩⟩ dX12_readUnit_155
                · refine z_bipush F dX12_readUnit_134 (by decide +kernel) ?_
                  refine z_goto (tgt := 152) F dX12_readUnit_136 (by decide +kernel) ?_
                  refine zv_v (rest := []) F (kp_X12_laysStep l M79 ⟨hI, hW⟩ 13 (by omega) (by omega) (by omega) hL (by omega)) cs_X12_149 (T := TX12) (N := 44) (ci := 12) rfl gs_131 (by omega) (by decide) rfl rfl rfl (Nat.le_of_ble_eq_true rfl) dX12_readUnit_152 (fun M87 hI p88 => ?_)
                  obtain ⟨hI, hW⟩ := hI
                  obtain ⟨fp88, xp88⟩ := p88
                  have hF := hF.call fp88 (by decide)
                  have tM87_131_7 : M87 131 7 = M79 131 7 := fp88.at (by decide)
                  have tM87_131_8 : M87 131 8 = M79 131 8 := fp88.at (by decide)
                  have tM87_131_9 : M87 131 9 = M79 131 9 := fp88.at (by decide)
                  have tM87_131_10 : M87 131 10 = M79 131 10 := fp88.at (by decide)
                  have tM87_131_12 : M87 131 12 = M79 131 12 := fp88.at (by decide)
                  have tM87_131_16 : M87 131 16 = M79 131 16 := fp88.at (by decide)
                  obtain ⟨hL, xp88⟩ := xp88
                  exact hret _ 155 _ ⟨hI, hW⟩ ⟨hF, ⟨hL, by omega⟩⟩ dX12_readUnit_155
      · refine z_aload_n F dX12_readUnit_53 rfl (q := 0) rfl ?_
        refine zv_v (rest := []) F (kp_X12_goesIn l M ⟨hI, hW⟩ (by omega) (by omega)) cs_X12_159 (T := TX12) (N := 44) (ci := 12) rfl gs_131 (by omega) (by decide) rfl rfl rfl (Nat.le_of_ble_eq_true rfl) dX12_readUnit_54 (fun M89 hI p90 => ?_)
        obtain ⟨hI, hW⟩ := hI
        obtain ⟨fp90, xp90⟩ := p90
        have hF := hF.call fp90 (by decide)
        have tM89_133_6 : M89 133 6 = M 133 6 := fp90.at (by decide)
        have tM89_133_1 : M89 133 1 = M 133 1 := fp90.at (by decide)
        have hq9 := wl_fr fp90 (by decide)
        have hL := hq9.2 hL
        have cM89 := hq9.1
        clear hq9
        refine z_aload_n F dX12_readUnit_57 rfl (q := 0) rfl ?_
        refine zv_v (rest := []) F (ih.1 M89 ⟨hI, hW⟩ (by omega) (by omega) (by omega) (by omega) hL (by omega)) cs_X12_165 (T := TX12) (N := 44) (ci := 12) rfl gs_131 (by omega) (by decide) rfl rfl rfl (Nat.le_of_ble_eq_true rfl) dX12_readUnit_58 (fun M91 hI p92 => ?_)
        obtain ⟨hI, hW⟩ := hI
        obtain ⟨fp92, xp92⟩ := p92
        have hF := hF.call fp92 (by decide)
        obtain ⟨hL, xp92⟩ := xp92
        refine z_aload_n F dX12_readUnit_61 rfl (q := 0) rfl ?_
        refine z_bipush F dX12_readUnit_62 (by decide +kernel) ?_
        refine zv_v (rest := []) F (kp_X12_mustSign l M91 ⟨hI, hW⟩ 93 (by omega) (by omega) (by omega)) cs_X12_168 (T := TX12) (N := 44) (ci := 12) rfl gs_131 (by omega) (by decide) rfl rfl rfl (Nat.le_of_ble_eq_true rfl) dX12_readUnit_64 (fun M93 hI p94 => ?_)
        obtain ⟨hI, hW⟩ := hI
        obtain ⟨fp94, xp94⟩ := p94
        have hF := hF.call fp94 (by decide)
        have tM93_133_6 : M93 133 6 = M91 133 6 := fp94.at (by decide)
        have tM93_133_1 : M93 133 1 = M91 133 1 := fp94.at (by decide)
        have hq9 := wl_fr fp94 (by decide)
        have hL := hq9.2 hL
        have cM93 := hq9.1
        clear hq9
        refine z_aload_n F dX12_readUnit_67 rfl (q := 0) rfl ?_
        refine z_dup F dX12_readUnit_68 rfl ?_
        refine gf_X12_141 F hI gs_131 rfl bd_131_16 dX12_readUnit_69 (fun v95 ev95 av95 bv95 => ?_)
        refine z_iconst F dX12_readUnit_72 ?_
        refine z_isub F dX12_readUnit_73 ?_
        refine z_wrap (fun v96 rv96 wv96 => ?_)
        refine pf_X12_141 F hI gs_131 rfl bd_131_16 rfl rfl dX12_readUnit_74 (by omega) (by omega) (fun M98 hI sf97 f97 => ?_)
        have tM98_131_7 : M98 131 7 = M93 131 7 := f97 131 7 (fun q => absurd q.2 (by decide))
        have tM98_131_8 : M98 131 8 = M93 131 8 := f97 131 8 (fun q => absurd q.2 (by decide))
        have tM98_131_9 : M98 131 9 = M93 131 9 := f97 131 9 (fun q => absurd q.2 (by decide))
        have tM98_131_10 : M98 131 10 = M93 131 10 := f97 131 10 (fun q => absurd q.2 (by decide))
        have tM98_131_12 : M98 131 12 = M93 131 12 := f97 131 12 (fun q => absurd q.2 (by decide))
        have tM98_133_6 : M98 133 6 = M93 133 6 := f97 133 6 (fun q => absurd q.1 (by decide))
        have tM98_133_1 : M98 133 1 = M93 133 1 := f97 133 1 (fun q => absurd q.1 (by decide))
        have hq9 := wl_ws f97 (by decide)
        have hL := hq9.2 hL
        have cM98 := hq9.1
        clear hq9
        have hF := hF.wrf f97 (by decide) (by decide)
        have hW : WFk M98 := hW.site f97 (by decide)
        refine z_goto (tgt := 155) F dX12_readUnit_77 (by decide +kernel) ?_
        exact hret _ 155 _ ⟨hI, hW⟩ ⟨hF, ⟨hL, by omega⟩⟩ dX12_readUnit_155
    · refine z_aload_n F dX12_readUnit_17 rfl (q := 0) rfl ?_
      refine zv_v (rest := []) F (kp_X12_goesIn l M ⟨hI, hW⟩ (by omega) (by omega)) cs_X12_159 (T := TX12) (N := 44) (ci := 12) rfl gs_131 (by omega) (by decide) rfl rfl rfl (Nat.le_of_ble_eq_true rfl) dX12_readUnit_18 (fun M99 hI p100 => ?_)
      obtain ⟨hI, hW⟩ := hI
      obtain ⟨fp100, xp100⟩ := p100
      have hF := hF.call fp100 (by decide)
      have tM99_133_6 : M99 133 6 = M 133 6 := fp100.at (by decide)
      have tM99_133_1 : M99 133 1 = M 133 1 := fp100.at (by decide)
      have hq9 := wl_fr fp100 (by decide)
      have hL := hq9.2 hL
      have cM99 := hq9.1
      clear hq9
      refine z_aload_n F dX12_readUnit_21 rfl (q := 0) rfl ?_
      refine zv_v (rest := []) F (ih.2.2.1 M99 ⟨hI, hW⟩ (by omega) (by omega) (by omega) (by omega) hL (by omega)) cs_X12_152 (T := TX12) (N := 44) (ci := 12) rfl gs_131 (by omega) (by decide) rfl rfl rfl (Nat.le_of_ble_eq_true rfl) dX12_readUnit_22 (fun M101 hI p102 => ?_)
      obtain ⟨hI, hW⟩ := hI
      obtain ⟨fp102, xp102⟩ := p102
      have hF := hF.call fp102 (by decide)
      obtain ⟨hL, xp102⟩ := xp102
      refine z_aload_n F dX12_readUnit_25 rfl (q := 0) rfl ?_
      refine z_bipush F dX12_readUnit_26 (by decide +kernel) ?_
      refine zv_v (rest := []) F (kp_X12_laysStep l M101 ⟨hI, hW⟩ 18 (by omega) (by omega) (by omega) hL (by omega)) cs_X12_149 (T := TX12) (N := 44) (ci := 12) rfl gs_131 (by omega) (by decide) rfl rfl rfl (Nat.le_of_ble_eq_true rfl) dX12_readUnit_28 (fun M103 hI p104 => ?_)
      obtain ⟨hI, hW⟩ := hI
      obtain ⟨fp104, xp104⟩ := p104
      have hF := hF.call fp104 (by decide)
      have tM103_131_7 : M103 131 7 = M101 131 7 := fp104.at (by decide)
      have tM103_131_8 : M103 131 8 = M101 131 8 := fp104.at (by decide)
      have tM103_131_9 : M103 131 9 = M101 131 9 := fp104.at (by decide)
      have tM103_131_10 : M103 131 10 = M101 131 10 := fp104.at (by decide)
      have tM103_131_12 : M103 131 12 = M101 131 12 := fp104.at (by decide)
      have tM103_131_16 : M103 131 16 = M101 131 16 := fp104.at (by decide)
      obtain ⟨hL, xp104⟩ := xp104
      refine z_aload_n F dX12_readUnit_31 rfl (q := 0) rfl ?_
      refine z_dup F dX12_readUnit_32 rfl ?_
      refine gf_X12_141 F hI gs_131 rfl bd_131_16 dX12_readUnit_33 (fun v105 ev105 av105 bv105 => ?_)
      refine z_iconst F dX12_readUnit_36 ?_
      refine z_isub F dX12_readUnit_37 ?_
      refine z_wrap (fun v106 rv106 wv106 => ?_)
      refine pf_X12_141 F hI gs_131 rfl bd_131_16 rfl rfl dX12_readUnit_38 (by omega) (by omega) (fun M108 hI sf107 f107 => ?_)
      have tM108_131_7 : M108 131 7 = M103 131 7 := f107 131 7 (fun q => absurd q.2 (by decide))
      have tM108_131_8 : M108 131 8 = M103 131 8 := f107 131 8 (fun q => absurd q.2 (by decide))
      have tM108_131_9 : M108 131 9 = M103 131 9 := f107 131 9 (fun q => absurd q.2 (by decide))
      have tM108_131_10 : M108 131 10 = M103 131 10 := f107 131 10 (fun q => absurd q.2 (by decide))
      have tM108_131_12 : M108 131 12 = M103 131 12 := f107 131 12 (fun q => absurd q.2 (by decide))
      have tM108_133_6 : M108 133 6 = M103 133 6 := f107 133 6 (fun q => absurd q.1 (by decide))
      have tM108_133_1 : M108 133 1 = M103 133 1 := f107 133 1 (fun q => absurd q.1 (by decide))
      have hq9 := wl_ws f107 (by decide)
      have hL := hq9.2 hL
      have cM108 := hq9.1
      clear hq9
      have hF := hF.wrf f107 (by decide) (by decide)
      have hW : WFk M108 := hW.site f107 (by decide)
      refine z_goto (tgt := 155) F dX12_readUnit_41 (by decide +kernel) ?_
      exact hret _ 155 _ ⟨hI, hW⟩ ⟨hF, ⟨hL, by omega⟩⟩ dX12_readUnit_155
  · exact hret _ 7 _ ⟨hI, hW⟩ ⟨hF, ⟨hL, by omega⟩⟩ dX12_readUnit_7
set_option maxHeartbeats 4000000 in
set_option maxRecDepth 4000 in
theorem kp_X12_readSum (l : Launch) (nr : Nat) (ih : RdR l nr) : ∀ (M : Mem) (hJ : Iw M) (hp0 : 0 ≤ M 131 9 ∧ M 131 9 ≤ M 131 8 ∧ M 131 8 ≤ M 131 7 ∧ M 131 7 ≤ 900 ∧ (M 131 10 = 0 ∨ M 131 9 < M 131 8)) (hp1 : 0 ≤ M 131 16 ∧ (M 131 16 ≤ 6 ∨ M 131 16 = 7 ∧ ¬ M 131 12 = 0)) (hp2 : M 133 6 ≤ M 131 9) (hp3 : ¬ M 131 12 = 0 ∨ 0 ≤ Cu M ∧ Cu M + 2 * (6 - M 131 16) + 3 ≤ 64) (hp4 : Wl M) (hmu : (7 - M 131 16) * 8 + 3 < ((nr + 1 : Nat) : Int)), CV l yX12_readSum cX12_readSum 2 none (14 + (nr + 1)) (fun ad => [.ref (ad 131)]) M (fun M' => Fr [131, 133] M M' ∧ (Wl M' ∧ 0 ≤ M' 131 9 ∧ M' 131 9 ≤ M' 131 8 ∧ M' 131 8 ≤ M' 131 7 ∧ M' 131 7 ≤ 900 ∧ (M' 131 10 = 0 ∨ M' 131 9 < M' 131 8) ∧ M' 131 7 = M 131 7 ∧ M' 131 16 = M 131 16 ∧ M 131 9 ≤ M' 131 9 ∧ M' 133 6 + M 131 9 ≤ M 133 6 + M' 131 9 ∧ (M' 131 12 = 0 → M 131 12 = 0 ∧ Cu M' = Cu M + 1) ∧ M' 133 1 = M 133 1)) := by
  intro M hJ hp0 hp1 hp2 hp3 hp4 hmu
  obtain ⟨hI, hW⟩ := hJ
  have hF : Fr [131, 133] M M := Fr.rf
  refine en_v (by decide +kernel) (fun ad => by exact Nat.le_of_ble_eq_true rfl) (fun D cy ad A p e s m args below meth c Q F hret => ?_)
  refine z_eq (ls' := [(0, .ref (ad 131))]) rfl rfl rfl ?_
  have hL := hp4
  refine z_aload_n F dX12_readSum_0 rfl (q := 0) rfl ?_
  refine zv_v (rest := []) F (ih.2.2.2.2.1 M ⟨hI, hW⟩ (by omega) (by omega) (by omega) (by omega) hL (by omega)) cs_X12_174 (T := TX12) (N := 44) (ci := 12) rfl gs_131 (by omega) (by decide) rfl rfl rfl (Nat.le_of_ble_eq_true rfl) dX12_readSum_1 (fun M1 hI p2 => ?_)
  obtain ⟨hI, hW⟩ := hI
  obtain ⟨fp2, xp2⟩ := p2
  have hF := hF.call fp2 (by decide)
  obtain ⟨hL, xp2⟩ := xp2
  refine z_loc [0] (ls' := [(0, .ref (ad 131))]) rfl ?_
  suffices key4 : ∀ (n : Nat) (M3 : Mem), Inv M3 → WFk M3 → Fr [131, 133] M M3 → (0 ≤ M3 131 9 ∧ M3 131 9 ≤ M3 131 8 ∧ M3 131 8 ≤ M3 131 7 ∧ M3 131 7 ≤ 900 ∧ (M3 131 10 = 0 ∨ M3 131 9 < M3 131 8)) → (M3 131 7 = M 131 7 ∧ M3 131 16 = M 131 16 ∧ M 131 9 ≤ M3 131 9 ∧ M3 133 6 + M 131 9 ≤ M 133 6 + M3 131 9 ∧ (M3 131 12 = 0 → M 131 12 = 0 ∧ Cu M3 = Cu M + 1) ∧ M3 133 1 = M 133 1) → (Wl M3) → 900 - M3 131 9 < (n : Int) → Z D cy ad p l e (RMh (14 + (nr + 1))) s m args below meth c A 2 0 0 Q 4 [(0, .ref (ad 131))] [] M3 from key4 901 M1 hI hW hF (by omega) (by omega) hL (by omega)
  intro n4
  induction n4 with
  | zero => intro M3 hI hW hF i4_0 i4_1 i4_2 hn4; exfalso; omega
  | succ n4 ih4 =>
    intro M3 hI hW hF i4_0 i4_1 i4_2 hn4
    have hL := i4_2
    refine z_aload_n F dX12_readSum_4 rfl (q := 0) rfl ?_
    refine z_bipush F dX12_readSum_5 (by decide +kernel) ?_
    refine zv_i (rest := []) F (kp_X12_isSign l M3 ⟨hI, hW⟩ 43 (by omega) (by omega)) cs_X12_162 (T := TX12) (N := 44) (ci := 12) rfl gs_131 (by omega) (by decide) rfl rfl rfl (Nat.le_of_ble_eq_true rfl) dX12_readSum_7 (fun v4 M5 rv4 hI p6 => ?_)
    obtain ⟨hI, hW⟩ := hI
    obtain ⟨⟨av4, bv4⟩, rfl, xp6⟩ := p6
    refine z_if_ne (tgt := 22) F dX12_readSum_10 (by decide +kernel) (by omega) (fun c7 => ?_) (fun c7 => ?_)
    · refine z_aload_n F dX12_readSum_22 rfl (q := 0) rfl ?_
      refine gf_X12_88 F hI gs_131 rfl bd_131_10 dX12_readSum_23 (fun v8 ev8 av8 bv8 => ?_)
      refine z_istore_n F dX12_readSum_26 rfl (by decide) (ls' := [(1, ii v8), (0, .ref (ad 131))]) rfl ?_
      refine z_aload_n F dX12_readSum_27 rfl (q := 1) rfl ?_
      refine zv_v (rest := []) F (kp_X12_readsOn l M3 ⟨hI, hW⟩ (by omega)) cs_X12_127 (T := TX12) (N := 44) (ci := 12) rfl gs_131 (by omega) (by decide) rfl rfl rfl (Nat.le_of_ble_eq_true rfl) dX12_readSum_28 (fun M9 hI p10 => ?_)
      obtain ⟨hI, hW⟩ := hI
      obtain ⟨fp10, xp10⟩ := p10
      have hF := hF.call fp10 (by decide)
      have tM9_133_6 : M9 133 6 = M3 133 6 := fp10.at (by decide)
      have tM9_133_1 : M9 133 1 = M3 133 1 := fp10.at (by decide)
      have hq9 := wl_fr fp10 (by decide)
      have hL := hq9.2 hL
      have cM9 := hq9.1
      clear hq9
      refine z_aload_n F dX12_readSum_31 rfl (q := 1) rfl ?_
      refine zv_v (rest := []) F (ih.2.2.2.2.1 M9 ⟨hI, hW⟩ (by omega) (by omega) (by omega) (by omega) hL (by omega)) cs_X12_174 (T := TX12) (N := 44) (ci := 12) rfl gs_131 (by omega) (by decide) rfl rfl rfl (Nat.le_of_ble_eq_true rfl) dX12_readSum_32 (fun M11 hI p12 => ?_)
      obtain ⟨hI, hW⟩ := hI
      obtain ⟨fp12, xp12⟩ := p12
      have hF := hF.call fp12 (by decide)
      obtain ⟨hL, xp12⟩ := xp12
      refine z_aload_n F dX12_readSum_35 rfl (q := 1) rfl ?_
      refine z_iload_n F dX12_readSum_36 rfl (q := 0) rfl ?_
      refine z_bipush F dX12_readSum_37 (by decide +kernel) ?_
      refine z_icmp_ne (tgt := 47) F dX12_readSum_39 (by decide +kernel) (by omega) (by omega) (fun c13 => ?_) (fun c13 => ?_)
      · refine z_bipush F dX12_readSum_47 (by decide +kernel) ?_
        refine zv_v (rest := []) F (kp_X12_laysStep l M11 ⟨hI, hW⟩ 11 (by omega) (by omega) (by omega) hL (by omega)) cs_X12_149 (T := TX12) (N := 44) (ci := 12) rfl gs_131 (by omega) (by decide) rfl rfl rfl (Nat.le_of_ble_eq_true rfl) dX12_readSum_49 (fun M14 hI p15 => ?_)
        obtain ⟨hI, hW⟩ := hI
        obtain ⟨fp15, xp15⟩ := p15
        have hF := hF.call fp15 (by decide)
        have tM14_131_7 : M14 131 7 = M11 131 7 := fp15.at (by decide)
        have tM14_131_8 : M14 131 8 = M11 131 8 := fp15.at (by decide)
        have tM14_131_9 : M14 131 9 = M11 131 9 := fp15.at (by decide)
        have tM14_131_10 : M14 131 10 = M11 131 10 := fp15.at (by decide)
        have tM14_131_12 : M14 131 12 = M11 131 12 := fp15.at (by decide)
        have tM14_131_16 : M14 131 16 = M11 131 16 := fp15.at (by decide)
        obtain ⟨hL, xp15⟩ := xp15
        refine z_goto (tgt := 4) F dX12_readSum_52 (by decide +kernel) ?_
        refine z_loc [1] (ls' := [(0, .ref (ad 131))]) rfl ?_
        exact ih4 M14 hI hW hF (by omega) (by omega) hL (by omega)
      · refine z_bipush F dX12_readSum_42 (by decide +kernel) ?_
        refine z_goto (tgt := 49) F dX12_readSum_44 (by decide +kernel) ?_
        refine zv_v (rest := []) F (kp_X12_laysStep l M11 ⟨hI, hW⟩ 10 (by omega) (by omega) (by omega) hL (by omega)) cs_X12_149 (T := TX12) (N := 44) (ci := 12) rfl gs_131 (by omega) (by decide) rfl rfl rfl (Nat.le_of_ble_eq_true rfl) dX12_readSum_49 (fun M16 hI p17 => ?_)
        obtain ⟨hI, hW⟩ := hI
        obtain ⟨fp17, xp17⟩ := p17
        have hF := hF.call fp17 (by decide)
        have tM16_131_7 : M16 131 7 = M11 131 7 := fp17.at (by decide)
        have tM16_131_8 : M16 131 8 = M11 131 8 := fp17.at (by decide)
        have tM16_131_9 : M16 131 9 = M11 131 9 := fp17.at (by decide)
        have tM16_131_10 : M16 131 10 = M11 131 10 := fp17.at (by decide)
        have tM16_131_12 : M16 131 12 = M11 131 12 := fp17.at (by decide)
        have tM16_131_16 : M16 131 16 = M11 131 16 := fp17.at (by decide)
        obtain ⟨hL, xp17⟩ := xp17
        refine z_goto (tgt := 4) F dX12_readSum_52 (by decide +kernel) ?_
        refine z_loc [1] (ls' := [(0, .ref (ad 131))]) rfl ?_
        exact ih4 M16 hI hW hF (by omega) (by omega) hL (by omega)
    · refine z_aload_n F dX12_readSum_13 rfl (q := 0) rfl ?_
      refine z_bipush F dX12_readSum_14 (by decide +kernel) ?_
      refine zv_i (rest := []) F (kp_X12_isSign l M3 ⟨hI, hW⟩ 45 (by omega) (by omega)) cs_X12_162 (T := TX12) (N := 44) (ci := 12) rfl gs_131 (by omega) (by decide) rfl rfl rfl (Nat.le_of_ble_eq_true rfl) dX12_readSum_16 (fun v18 M19 rv18 hI p20 => ?_)
      obtain ⟨hI, hW⟩ := hI
      obtain ⟨⟨av18, bv18⟩, rfl, xp20⟩ := p20
      refine z_if_eq (tgt := 55) F dX12_readSum_19 (by decide +kernel) (by omega) (fun c21 => ?_) (fun c21 => ?_)
      · exact hret _ 55 _ ⟨hI, hW⟩ ⟨hF, ⟨hL, by omega⟩⟩ dX12_readSum_55
      · refine z_aload_n F dX12_readSum_22 rfl (q := 0) rfl ?_
        refine gf_X12_88 F hI gs_131 rfl bd_131_10 dX12_readSum_23 (fun v22 ev22 av22 bv22 => ?_)
        refine z_istore_n F dX12_readSum_26 rfl (by decide) (ls' := [(1, ii v22), (0, .ref (ad 131))]) rfl ?_
        refine z_aload_n F dX12_readSum_27 rfl (q := 1) rfl ?_
        refine zv_v (rest := []) F (kp_X12_readsOn l M3 ⟨hI, hW⟩ (by omega)) cs_X12_127 (T := TX12) (N := 44) (ci := 12) rfl gs_131 (by omega) (by decide) rfl rfl rfl (Nat.le_of_ble_eq_true rfl) dX12_readSum_28 (fun M23 hI p24 => ?_)
        obtain ⟨hI, hW⟩ := hI
        obtain ⟨fp24, xp24⟩ := p24
        have hF := hF.call fp24 (by decide)
        have tM23_133_6 : M23 133 6 = M3 133 6 := fp24.at (by decide)
        have tM23_133_1 : M23 133 1 = M3 133 1 := fp24.at (by decide)
        have hq9 := wl_fr fp24 (by decide)
        have hL := hq9.2 hL
        have cM23 := hq9.1
        clear hq9
        refine z_aload_n F dX12_readSum_31 rfl (q := 1) rfl ?_
        refine zv_v (rest := []) F (ih.2.2.2.2.1 M23 ⟨hI, hW⟩ (by omega) (by omega) (by omega) (by omega) hL (by omega)) cs_X12_174 (T := TX12) (N := 44) (ci := 12) rfl gs_131 (by omega) (by decide) rfl rfl rfl (Nat.le_of_ble_eq_true rfl) dX12_readSum_32 (fun M25 hI p26 => ?_)
        obtain ⟨hI, hW⟩ := hI
        obtain ⟨fp26, xp26⟩ := p26
        have hF := hF.call fp26 (by decide)
        obtain ⟨hL, xp26⟩ := xp26
        refine z_aload_n F dX12_readSum_35 rfl (q := 1) rfl ?_
        refine z_iload_n F dX12_readSum_36 rfl (q := 0) rfl ?_
        refine z_bipush F dX12_readSum_37 (by decide +kernel) ?_
        refine z_icmp_ne (tgt := 47) F dX12_readSum_39 (by decide +kernel) (by omega) (by omega) (fun c27 => ?_) (fun c27 => ?_)
        · refine z_bipush F dX12_readSum_47 (by decide +kernel) ?_
          refine zv_v (rest := []) F (kp_X12_laysStep l M25 ⟨hI, hW⟩ 11 (by omega) (by omega) (by omega) hL (by omega)) cs_X12_149 (T := TX12) (N := 44) (ci := 12) rfl gs_131 (by omega) (by decide) rfl rfl rfl (Nat.le_of_ble_eq_true rfl) dX12_readSum_49 (fun M28 hI p29 => ?_)
          obtain ⟨hI, hW⟩ := hI
          obtain ⟨fp29, xp29⟩ := p29
          have hF := hF.call fp29 (by decide)
          have tM28_131_7 : M28 131 7 = M25 131 7 := fp29.at (by decide)
          have tM28_131_8 : M28 131 8 = M25 131 8 := fp29.at (by decide)
          have tM28_131_9 : M28 131 9 = M25 131 9 := fp29.at (by decide)
          have tM28_131_10 : M28 131 10 = M25 131 10 := fp29.at (by decide)
          have tM28_131_12 : M28 131 12 = M25 131 12 := fp29.at (by decide)
          have tM28_131_16 : M28 131 16 = M25 131 16 := fp29.at (by decide)
          obtain ⟨hL, xp29⟩ := xp29
          refine z_goto (tgt := 4) F dX12_readSum_52 (by decide +kernel) ?_
          refine z_loc [1] (ls' := [(0, .ref (ad 131))]) rfl ?_
          exact ih4 M28 hI hW hF (by omega) (by omega) hL (by omega)
        · refine z_bipush F dX12_readSum_42 (by decide +kernel) ?_
          refine z_goto (tgt := 49) F dX12_readSum_44 (by decide +kernel) ?_
          refine zv_v (rest := []) F (kp_X12_laysStep l M25 ⟨hI, hW⟩ 10 (by omega) (by omega) (by omega) hL (by omega)) cs_X12_149 (T := TX12) (N := 44) (ci := 12) rfl gs_131 (by omega) (by decide) rfl rfl rfl (Nat.le_of_ble_eq_true rfl) dX12_readSum_49 (fun M30 hI p31 => ?_)
          obtain ⟨hI, hW⟩ := hI
          obtain ⟨fp31, xp31⟩ := p31
          have hF := hF.call fp31 (by decide)
          have tM30_131_7 : M30 131 7 = M25 131 7 := fp31.at (by decide)
          have tM30_131_8 : M30 131 8 = M25 131 8 := fp31.at (by decide)
          have tM30_131_9 : M30 131 9 = M25 131 9 := fp31.at (by decide)
          have tM30_131_10 : M30 131 10 = M25 131 10 := fp31.at (by decide)
          have tM30_131_12 : M30 131 12 = M25 131 12 := fp31.at (by decide)
          have tM30_131_16 : M30 131 16 = M25 131 16 := fp31.at (by decide)
          obtain ⟨hL, xp31⟩ := xp31
          refine z_goto (tgt := 4) F dX12_readSum_52 (by decide +kernel) ?_
          refine z_loc [1] (ls' := [(0, .ref (ad 131))]) rfl ?_
          exact ih4 M30 hI hW hF (by omega) (by omega) hL (by omega)
set_option maxHeartbeats 4000000 in
set_option maxRecDepth 4000 in
theorem kp_X12_readTerm (l : Launch) (nr : Nat) (ih : RdR l nr) : ∀ (M : Mem) (hJ : Iw M) (hp0 : 0 ≤ M 131 9 ∧ M 131 9 ≤ M 131 8 ∧ M 131 8 ≤ M 131 7 ∧ M 131 7 ≤ 900 ∧ (M 131 10 = 0 ∨ M 131 9 < M 131 8)) (hp1 : 0 ≤ M 131 16 ∧ (M 131 16 ≤ 6 ∨ M 131 16 = 7 ∧ ¬ M 131 12 = 0)) (hp2 : M 133 6 ≤ M 131 9) (hp3 : ¬ M 131 12 = 0 ∨ 0 ≤ Cu M ∧ Cu M + 2 * (6 - M 131 16) + 2 ≤ 64) (hp4 : Wl M) (hmu : (7 - M 131 16) * 8 + 2 < ((nr + 1 : Nat) : Int)), CV l yX12_readTerm cX12_readTerm 1 none (14 + (nr + 1)) (fun ad => [.ref (ad 131)]) M (fun M' => Fr [131, 133] M M' ∧ (Wl M' ∧ 0 ≤ M' 131 9 ∧ M' 131 9 ≤ M' 131 8 ∧ M' 131 8 ≤ M' 131 7 ∧ M' 131 7 ≤ 900 ∧ (M' 131 10 = 0 ∨ M' 131 9 < M' 131 8) ∧ M' 131 7 = M 131 7 ∧ M' 131 16 = M 131 16 ∧ M 131 9 ≤ M' 131 9 ∧ M' 133 6 + M 131 9 ≤ M 133 6 + M' 131 9 ∧ (M' 131 12 = 0 → M 131 12 = 0 ∧ Cu M' = Cu M + 1) ∧ M' 133 1 = M 133 1)) := by
  intro M hJ hp0 hp1 hp2 hp3 hp4 hmu
  obtain ⟨hI, hW⟩ := hJ
  have hF : Fr [131, 133] M M := Fr.rf
  refine en_v (by decide +kernel) (fun ad => by exact Nat.le_of_ble_eq_true rfl) (fun D cy ad A p e s m args below meth c Q F hret => ?_)
  refine z_eq (ls' := [(0, .ref (ad 131))]) rfl rfl rfl ?_
  have hL := hp4
  refine z_aload_n F dX12_readTerm_0 rfl (q := 0) rfl ?_
  refine zv_v (rest := []) F (ih.2.2.2.2.2 M ⟨hI, hW⟩ (by omega) (by omega) (by omega) (by omega) hL (by omega)) cs_X12_177 (T := TX12) (N := 44) (ci := 12) rfl gs_131 (by omega) (by decide) rfl rfl rfl (Nat.le_of_ble_eq_true rfl) dX12_readTerm_1 (fun M1 hI p2 => ?_)
  obtain ⟨hI, hW⟩ := hI
  obtain ⟨fp2, xp2⟩ := p2
  have hF := hF.call fp2 (by decide)
  obtain ⟨hL, xp2⟩ := xp2
  refine z_loc [0] (ls' := [(0, .ref (ad 131))]) rfl ?_
  suffices key4 : ∀ (n : Nat) (M3 : Mem), Inv M3 → WFk M3 → Fr [131, 133] M M3 → (0 ≤ M3 131 9 ∧ M3 131 9 ≤ M3 131 8 ∧ M3 131 8 ≤ M3 131 7 ∧ M3 131 7 ≤ 900 ∧ (M3 131 10 = 0 ∨ M3 131 9 < M3 131 8)) → (M3 131 7 = M 131 7 ∧ M3 131 16 = M 131 16 ∧ M 131 9 ≤ M3 131 9 ∧ M3 133 6 + M 131 9 ≤ M 133 6 + M3 131 9 ∧ (M3 131 12 = 0 → M 131 12 = 0 ∧ Cu M3 = Cu M + 1) ∧ M3 133 1 = M 133 1) → (Wl M3) → 900 - M3 131 9 < (n : Int) → Z D cy ad p l e (RMh (14 + (nr + 1))) s m args below meth c A 1 0 0 Q 4 [(0, .ref (ad 131))] [] M3 from key4 901 M1 hI hW hF (by omega) (by omega) hL (by omega)
  intro n4
  induction n4 with
  | zero => intro M3 hI hW hF i4_0 i4_1 i4_2 hn4; exfalso; omega
  | succ n4 ih4 =>
    intro M3 hI hW hF i4_0 i4_1 i4_2 hn4
    have hL := i4_2
    refine z_aload_n F dX12_readTerm_4 rfl (q := 0) rfl ?_
    refine z_bipush F dX12_readTerm_5 (by decide +kernel) ?_
    refine zv_i (rest := []) F (kp_X12_isSign l M3 ⟨hI, hW⟩ 42 (by omega) (by omega)) cs_X12_162 (T := TX12) (N := 44) (ci := 12) rfl gs_131 (by omega) (by decide) rfl rfl rfl (Nat.le_of_ble_eq_true rfl) dX12_readTerm_7 (fun v4 M5 rv4 hI p6 => ?_)
    obtain ⟨hI, hW⟩ := hI
    obtain ⟨⟨av4, bv4⟩, rfl, xp6⟩ := p6
    refine z_if_eq (tgt := 30) F dX12_readTerm_10 (by decide +kernel) (by omega) (fun c7 => ?_) (fun c7 => ?_)
    · exact hret _ 30 _ ⟨hI, hW⟩ ⟨hF, ⟨hL, by omega⟩⟩ dX12_readTerm_30
    · refine z_aload_n F dX12_readTerm_13 rfl (q := 0) rfl ?_
      refine zv_v (rest := []) F (kp_X12_readsOn l M3 ⟨hI, hW⟩ (by omega)) cs_X12_127 (T := TX12) (N := 44) (ci := 12) rfl gs_131 (by omega) (by decide) rfl rfl rfl (Nat.le_of_ble_eq_true rfl) dX12_readTerm_14 (fun M8 hI p9 => ?_)
      obtain ⟨hI, hW⟩ := hI
      obtain ⟨fp9, xp9⟩ := p9
      have hF := hF.call fp9 (by decide)
      have tM8_133_6 : M8 133 6 = M3 133 6 := fp9.at (by decide)
      have tM8_133_1 : M8 133 1 = M3 133 1 := fp9.at (by decide)
      have hq9 := wl_fr fp9 (by decide)
      have hL := hq9.2 hL
      have cM8 := hq9.1
      clear hq9
      refine z_aload_n F dX12_readTerm_17 rfl (q := 0) rfl ?_
      refine zv_v (rest := []) F (ih.2.2.2.2.2 M8 ⟨hI, hW⟩ (by omega) (by omega) (by omega) (by omega) hL (by omega)) cs_X12_177 (T := TX12) (N := 44) (ci := 12) rfl gs_131 (by omega) (by decide) rfl rfl rfl (Nat.le_of_ble_eq_true rfl) dX12_readTerm_18 (fun M10 hI p11 => ?_)
      obtain ⟨hI, hW⟩ := hI
      obtain ⟨fp11, xp11⟩ := p11
      have hF := hF.call fp11 (by decide)
      obtain ⟨hL, xp11⟩ := xp11
      refine z_aload_n F dX12_readTerm_21 rfl (q := 0) rfl ?_
      refine z_bipush F dX12_readTerm_22 (by decide +kernel) ?_
      refine zv_v (rest := []) F (kp_X12_laysStep l M10 ⟨hI, hW⟩ 12 (by omega) (by omega) (by omega) hL (by omega)) cs_X12_149 (T := TX12) (N := 44) (ci := 12) rfl gs_131 (by omega) (by decide) rfl rfl rfl (Nat.le_of_ble_eq_true rfl) dX12_readTerm_24 (fun M12 hI p13 => ?_)
      obtain ⟨hI, hW⟩ := hI
      obtain ⟨fp13, xp13⟩ := p13
      have hF := hF.call fp13 (by decide)
      have tM12_131_7 : M12 131 7 = M10 131 7 := fp13.at (by decide)
      have tM12_131_8 : M12 131 8 = M10 131 8 := fp13.at (by decide)
      have tM12_131_9 : M12 131 9 = M10 131 9 := fp13.at (by decide)
      have tM12_131_10 : M12 131 10 = M10 131 10 := fp13.at (by decide)
      have tM12_131_12 : M12 131 12 = M10 131 12 := fp13.at (by decide)
      have tM12_131_16 : M12 131 16 = M10 131 16 := fp13.at (by decide)
      obtain ⟨hL, xp13⟩ := xp13
      refine z_goto (tgt := 4) F dX12_readTerm_27 (by decide +kernel) ?_
      refine z_loc [0] (ls' := [(0, .ref (ad 131))]) rfl ?_
      exact ih4 M12 hI hW hF (by omega) (by omega) hL (by omega)
set_option maxHeartbeats 4000000 in
set_option maxRecDepth 4000 in
theorem kp_X12_number (l : Launch) (M : Mem) (hJ : Iw M) (x0 : Int) (hx0a : (-2147483648) ≤ x0) (hx0b : x0 ≤ 2147483647) (x1 : Int) (hx1a : (-2147483648) ≤ x1) (hx1b : x1 ≤ 2147483647) (hp0 : 0 ≤ M 131 9 ∧ M 131 9 ≤ M 131 8 ∧ M 131 8 ≤ M 131 7 ∧ M 131 7 ≤ 900 ∧ (M 131 10 = 0 ∨ M 131 9 < M 131 8)) : CI l yX12_number cX12_number 4 (some .int) 3 (fun ad => [.ref (ad 131), ii x0, ii x1]) M (fun z M' => ((-2147483648) ≤ z ∧ z ≤ 2147483647) ∧ Fr [131] M M' ∧ (M' 131 7 = M 131 7 ∧ M' 131 16 = M 131 16 ∧ M 131 9 ≤ M' 131 9 ∧ 0 ≤ M' 131 9 ∧ M' 131 9 ≤ M' 131 8 ∧ M' 131 8 ≤ M' 131 7 ∧ M' 131 7 ≤ 900 ∧ (M' 131 10 = 0 ∨ M' 131 9 < M' 131 8) ∧ (z = x0 ∨ x0 ≤ z ∧ z ≤ x1) ∧ (M' 131 12 = 0 → M 131 12 = 0 ∧ x0 ≤ z ∧ z ≤ x1 ∧ M 131 9 < M' 131 9))) := by
  obtain ⟨hI, hW⟩ := hJ
  have hF : Fr [131] M M := Fr.rf
  refine en_i (by decide +kernel) (fun ad => by exact Nat.le_of_ble_eq_true rfl) (fun D cy ad A p e s m args below meth c Q F hret => ?_)
  refine z_eq (ls' := [(0, .ref (ad 131)), (1, ii x0), (2, ii x1)]) rfl rfl rfl ?_
  refine z_aload_n F dX12_number_0 rfl (q := 0) rfl ?_
  refine gf_X12_88 F hI gs_131 rfl bd_131_10 dX12_number_1 (fun v1 ev1 av1 bv1 => ?_)
  refine z_iconst F dX12_number_4 ?_
  refine z_icmp_eq (tgt := 16) F dX12_number_5 (by decide +kernel) (by omega) (by omega) (fun c2 => ?_) (fun c2 => ?_)
  · refine z_aload_n F dX12_number_16 rfl (q := 0) rfl ?_
    refine gf_X12_102 F hI gs_131 rfl bd_131_11 dX12_number_17 (fun v3 ev3 av3 bv3 => ?_)
    refine z_i2l F dX12_number_20 (by omega) ?_
    refine z_iload_n F dX12_number_21 rfl (q := 1) rfl ?_
    refine z_i2l F dX12_number_22 (by omega) ?_
    refine z_iload_n F dX12_number_23 rfl (q := 2) rfl ?_
    refine z_i2l F dX12_number_24 (by omega) ?_
    refine zs_i (rest := []) F (k_X12_within l M ⟨hI, hW⟩ v3 (by omega) (by omega) x0 (by omega) (by omega) x1 (by omega) (by omega)) cs_X12_137 (by decide) (by decide) rfl rfl rfl (Nat.le_of_ble_eq_true rfl) dX12_number_25 (fun v4 M5 rv4 hI p6 => ?_)
    obtain ⟨hI, hW⟩ := hI
    obtain ⟨⟨av4, bv4⟩, rfl, xp6⟩ := p6
    refine z_if_ne (tgt := 36) F dX12_number_28 (by decide +kernel) (by omega) (fun c7 => ?_) (fun c7 => ?_)
    · refine z_aload_n F dX12_number_36 rfl (q := 0) rfl ?_
      refine gf_X12_102 F hI gs_131 rfl bd_131_11 dX12_number_37 (fun v8 ev8 av8 bv8 => ?_)
      have zv8 : v3 = v8 := ev3.trans ev8.symm
      subst zv8
      refine z_istore_n F dX12_number_40 rfl (by decide) (ls' := [(3, ii v3), (0, .ref (ad 131)), (1, ii x0), (2, ii x1)]) rfl ?_
      refine z_aload_n F dX12_number_41 rfl (q := 1) rfl ?_
      refine gf_X12_108 F hI gs_131 rfl bd_131_12 dX12_number_42 (fun v9 ev9 av9 bv9 => ?_)
      refine z_if_ne (tgt := 52) F dX12_number_45 (by decide +kernel) (by omega) (fun c10 => ?_) (fun c10 => ?_)
      · refine z_aload_n F dX12_number_52 rfl (q := 1) rfl ?_
        refine gf_X12_108 F hI gs_131 rfl bd_131_12 dX12_number_53 (fun v11 ev11 av11 bv11 => ?_)
        have zv11 : v9 = v11 := ev9.trans ev11.symm
        subst zv11
        refine z_if_ne (tgt := 63) F dX12_number_56 (by decide +kernel) (by omega) (fun c12 => ?_) (fun c12 => by exfalso; omega)
        refine z_iload_n F dX12_number_63 rfl (q := 2) rfl ?_
        exact hret _ _ 64 _ (by omega) ⟨hI, hW⟩ ⟨⟨by omega, by omega⟩, hF, (by omega)⟩ dX12_number_64
      · refine z_aload_n F dX12_number_48 rfl (q := 1) rfl ?_
        refine zv_v (rest := []) F (kp_X12_readsOn l M ⟨hI, hW⟩ (by omega)) cs_X12_127 (T := TX12) (N := 44) (ci := 12) rfl gs_131 (by decide) (by decide) rfl rfl rfl (Nat.le_of_ble_eq_true rfl) dX12_number_49 (fun M13 hI p14 => ?_)
        obtain ⟨hI, hW⟩ := hI
        obtain ⟨fp14, xp14⟩ := p14
        have hF := hF.call fp14 (by decide)
        have tM13_133_6 : M13 133 6 = M 133 6 := fp14.at (by decide)
        have tM13_133_1 : M13 133 1 = M 133 1 := fp14.at (by decide)
        refine z_aload_n F dX12_number_52 rfl (q := 1) rfl ?_
        refine gf_X12_108 F hI gs_131 rfl bd_131_12 dX12_number_53 (fun v15 ev15 av15 bv15 => ?_)
        refine z_if_ne (tgt := 63) F dX12_number_56 (by decide +kernel) (by omega) (fun c16 => ?_) (fun c16 => ?_)
        · refine z_iload_n F dX12_number_63 rfl (q := 2) rfl ?_
          exact hret _ _ 64 _ (by omega) ⟨hI, hW⟩ ⟨⟨by omega, by omega⟩, hF, (by omega)⟩ dX12_number_64
        · refine z_iload_n F dX12_number_59 rfl (q := 0) rfl ?_
          refine z_goto (tgt := 64) F dX12_number_60 (by decide +kernel) ?_
          exact hret _ _ 64 _ (by omega) ⟨hI, hW⟩ ⟨⟨by omega, by omega⟩, hF, (by omega)⟩ dX12_number_64
    · refine z_aload_n F dX12_number_31 rfl (q := 0) rfl ?_
      refine z_iconst F dX12_number_32 ?_
      refine zv_v (rest := []) F (kp_X12_blames l M ⟨hI, hW⟩ 3 (by omega) (by omega)) cs_X12_133 (T := TX12) (N := 44) (ci := 12) rfl gs_131 (by decide) (by decide) rfl rfl rfl (Nat.le_of_ble_eq_true rfl) dX12_number_33 (fun M17 hI p18 => ?_)
      obtain ⟨hI, hW⟩ := hI
      obtain ⟨fp18, xp18⟩ := p18
      have hF := hF.call fp18 (by decide)
      have tM17_133_6 : M17 133 6 = M 133 6 := fp18.at (by decide)
      have tM17_133_1 : M17 133 1 = M 133 1 := fp18.at (by decide)
      refine z_aload_n F dX12_number_36 rfl (q := 0) rfl ?_
      refine gf_X12_102 F hI gs_131 rfl bd_131_11 dX12_number_37 (fun v19 ev19 av19 bv19 => ?_)
      refine z_istore_n F dX12_number_40 rfl (by decide) (ls' := [(3, ii v19), (0, .ref (ad 131)), (1, ii x0), (2, ii x1)]) rfl ?_
      refine z_aload_n F dX12_number_41 rfl (q := 1) rfl ?_
      refine gf_X12_108 F hI gs_131 rfl bd_131_12 dX12_number_42 (fun v20 ev20 av20 bv20 => ?_)
      refine z_if_ne (tgt := 52) F dX12_number_45 (by decide +kernel) (by omega) (fun c21 => ?_) (fun c21 => ?_)
      · refine z_aload_n F dX12_number_52 rfl (q := 1) rfl ?_
        refine gf_X12_108 F hI gs_131 rfl bd_131_12 dX12_number_53 (fun v22 ev22 av22 bv22 => ?_)
        have zv22 : v20 = v22 := ev20.trans ev22.symm
        subst zv22
        refine z_if_ne (tgt := 63) F dX12_number_56 (by decide +kernel) (by omega) (fun c23 => ?_) (fun c23 => by exfalso; omega)
        refine z_iload_n F dX12_number_63 rfl (q := 2) rfl ?_
        exact hret _ _ 64 _ (by omega) ⟨hI, hW⟩ ⟨⟨by omega, by omega⟩, hF, (by omega)⟩ dX12_number_64
      · refine z_aload_n F dX12_number_48 rfl (q := 1) rfl ?_
        refine zv_v (rest := []) F (kp_X12_readsOn l M17 ⟨hI, hW⟩ (by omega)) cs_X12_127 (T := TX12) (N := 44) (ci := 12) rfl gs_131 (by decide) (by decide) rfl rfl rfl (Nat.le_of_ble_eq_true rfl) dX12_number_49 (fun M24 hI p25 => ?_)
        obtain ⟨hI, hW⟩ := hI
        obtain ⟨fp25, xp25⟩ := p25
        have hF := hF.call fp25 (by decide)
        have tM24_133_6 : M24 133 6 = M17 133 6 := fp25.at (by decide)
        have tM24_133_1 : M24 133 1 = M17 133 1 := fp25.at (by decide)
        refine z_aload_n F dX12_number_52 rfl (q := 1) rfl ?_
        refine gf_X12_108 F hI gs_131 rfl bd_131_12 dX12_number_53 (fun v26 ev26 av26 bv26 => ?_)
        refine z_if_ne (tgt := 63) F dX12_number_56 (by decide +kernel) (by omega) (fun c27 => ?_) (fun c27 => ?_)
        · refine z_iload_n F dX12_number_63 rfl (q := 2) rfl ?_
          exact hret _ _ 64 _ (by omega) ⟨hI, hW⟩ ⟨⟨by omega, by omega⟩, hF, (by omega)⟩ dX12_number_64
        · refine z_iload_n F dX12_number_59 rfl (q := 0) rfl ?_
          refine z_goto (tgt := 64) F dX12_number_60 (by decide +kernel) ?_
          exact hret _ _ 64 _ (by omega) ⟨hI, hW⟩ ⟨⟨by omega, by omega⟩, hF, (by omega)⟩ dX12_number_64
  · refine z_aload_n F dX12_number_8 rfl (q := 0) rfl ?_
    refine z_iconst F dX12_number_9 ?_
    refine zv_v (rest := []) F (kp_X12_blames l M ⟨hI, hW⟩ 2 (by omega) (by omega)) cs_X12_133 (T := TX12) (N := 44) (ci := 12) rfl gs_131 (by decide) (by decide) rfl rfl rfl (Nat.le_of_ble_eq_true rfl) dX12_number_10 (fun M28 hI p29 => ?_)
    obtain ⟨hI, hW⟩ := hI
    obtain ⟨fp29, xp29⟩ := p29
    have hF := hF.call fp29 (by decide)
    have tM28_133_6 : M28 133 6 = M 133 6 := fp29.at (by decide)
    have tM28_133_1 : M28 133 1 = M 133 1 := fp29.at (by decide)
    refine z_goto (tgt := 36) F dX12_number_13 (by decide +kernel) ?_
    refine z_aload_n F dX12_number_36 rfl (q := 0) rfl ?_
    refine gf_X12_102 F hI gs_131 rfl bd_131_11 dX12_number_37 (fun v30 ev30 av30 bv30 => ?_)
    refine z_istore_n F dX12_number_40 rfl (by decide) (ls' := [(3, ii v30), (0, .ref (ad 131)), (1, ii x0), (2, ii x1)]) rfl ?_
    refine z_aload_n F dX12_number_41 rfl (q := 1) rfl ?_
    refine gf_X12_108 F hI gs_131 rfl bd_131_12 dX12_number_42 (fun v31 ev31 av31 bv31 => ?_)
    refine z_if_ne (tgt := 52) F dX12_number_45 (by decide +kernel) (by omega) (fun c32 => ?_) (fun c32 => ?_)
    · refine z_aload_n F dX12_number_52 rfl (q := 1) rfl ?_
      refine gf_X12_108 F hI gs_131 rfl bd_131_12 dX12_number_53 (fun v33 ev33 av33 bv33 => ?_)
      have zv33 : v31 = v33 := ev31.trans ev33.symm
      subst zv33
      refine z_if_ne (tgt := 63) F dX12_number_56 (by decide +kernel) (by omega) (fun c34 => ?_) (fun c34 => by exfalso; omega)
      refine z_iload_n F dX12_number_63 rfl (q := 2) rfl ?_
      exact hret _ _ 64 _ (by omega) ⟨hI, hW⟩ ⟨⟨by omega, by omega⟩, hF, (by omega)⟩ dX12_number_64
    · refine z_aload_n F dX12_number_48 rfl (q := 1) rfl ?_
      refine zv_v (rest := []) F (kp_X12_readsOn l M28 ⟨hI, hW⟩ (by omega)) cs_X12_127 (T := TX12) (N := 44) (ci := 12) rfl gs_131 (by decide) (by decide) rfl rfl rfl (Nat.le_of_ble_eq_true rfl) dX12_number_49 (fun M35 hI p36 => ?_)
      obtain ⟨hI, hW⟩ := hI
      obtain ⟨fp36, xp36⟩ := p36
      have hF := hF.call fp36 (by decide)
      have tM35_133_6 : M35 133 6 = M28 133 6 := fp36.at (by decide)
      have tM35_133_1 : M35 133 1 = M28 133 1 := fp36.at (by decide)
      refine z_aload_n F dX12_number_52 rfl (q := 1) rfl ?_
      refine gf_X12_108 F hI gs_131 rfl bd_131_12 dX12_number_53 (fun v37 ev37 av37 bv37 => ?_)
      refine z_if_ne (tgt := 63) F dX12_number_56 (by decide +kernel) (by omega) (fun c38 => ?_) (fun c38 => ?_)
      · refine z_iload_n F dX12_number_63 rfl (q := 2) rfl ?_
        exact hret _ _ 64 _ (by omega) ⟨hI, hW⟩ ⟨⟨by omega, by omega⟩, hF, (by omega)⟩ dX12_number_64
      · refine z_iload_n F dX12_number_59 rfl (q := 0) rfl ?_
        refine z_goto (tgt := 64) F dX12_number_60 (by decide +kernel) ?_
        exact hret _ _ 64 _ (by omega) ⟨hI, hW⟩ ⟨⟨by omega, by omega⟩, hF, (by omega)⟩ dX12_number_64
set_option maxHeartbeats 4000000 in
set_option maxRecDepth 4000 in
theorem kp_X12_readAtom (l : Launch) (nr : Nat) (ih : RdR l nr) : ∀ (M : Mem) (hJ : Iw M) (hp0 : 0 ≤ M 131 9 ∧ M 131 9 ≤ M 131 8 ∧ M 131 8 ≤ M 131 7 ∧ M 131 7 ≤ 900 ∧ (M 131 10 = 0 ∨ M 131 9 < M 131 8)) (hp1 : 0 ≤ M 131 16 ∧ (M 131 16 ≤ 6 ∨ M 131 16 = 7 ∧ ¬ M 131 12 = 0)) (hp2 : M 133 6 ≤ M 131 9) (hp3 : ¬ M 131 12 = 0 ∨ 0 ≤ Cu M ∧ Cu M + 2 * (6 - M 131 16) + 1 ≤ 64) (hp4 : Wl M) (hmu : (7 - M 131 16) * 8 + 1 < ((nr + 1 : Nat) : Int)), CV l yX12_readAtom cX12_readAtom 3 none (14 + (nr + 1)) (fun ad => [.ref (ad 131)]) M (fun M' => Fr [131, 133] M M' ∧ (Wl M' ∧ 0 ≤ M' 131 9 ∧ M' 131 9 ≤ M' 131 8 ∧ M' 131 8 ≤ M' 131 7 ∧ M' 131 7 ≤ 900 ∧ (M' 131 10 = 0 ∨ M' 131 9 < M' 131 8) ∧ M' 131 7 = M 131 7 ∧ M' 131 16 = M 131 16 ∧ M 131 9 ≤ M' 131 9 ∧ M' 133 6 + M 131 9 ≤ M 133 6 + M' 131 9 ∧ (M' 131 12 = 0 → M 131 12 = 0 ∧ Cu M' = Cu M + 1) ∧ M' 133 1 = M 133 1)) := by
  intro M hJ hp0 hp1 hp2 hp3 hp4 hmu
  obtain ⟨hI, hW⟩ := hJ
  have hF : Fr [131, 133] M M := Fr.rf
  refine en_v (by decide +kernel) (fun ad => by exact Nat.le_of_ble_eq_true rfl) (fun D cy ad A p e s m args below meth c Q F hret => ?_)
  refine z_eq (ls' := [(0, .ref (ad 131))]) rfl rfl rfl ?_
  have hL := hp4
  refine z_aload_n F dX12_readAtom_0 rfl (q := 0) rfl ?_
  refine gf_X12_108 F hI gs_131 rfl bd_131_12 dX12_readAtom_1 (fun v1 ev1 av1 bv1 => ?_)
  refine z_if_eq (tgt := 8) F dX12_readAtom_4 (by decide +kernel) (by omega) (fun c2 => ?_) (fun c2 => ?_)
  · refine z_aload_n F dX12_readAtom_8 rfl (q := 0) rfl ?_
    refine zv_i (rest := []) F (kp_X12_lawWord l M ⟨hI, hW⟩ (by omega)) cs_X12_196 (T := TX12) (N := 44) (ci := 12) rfl gs_131 (by omega) (by decide) rfl rfl rfl (Nat.le_of_ble_eq_true rfl) dX12_readAtom_9 (fun v3 M4 rv3 hI p5 => ?_)
    obtain ⟨hI, hW⟩ := hI
    obtain ⟨⟨av3, bv3⟩, fp5, xp5⟩ := p5
    have hF := hF.call fp5 (by decide)
    have tM4_133_6 : M4 133 6 = M 133 6 := fp5.at (by decide)
    have tM4_133_1 : M4 133 1 = M 133 1 := fp5.at (by decide)
    have hq9 := wl_fr fp5 (by decide)
    have hL := hq9.2 hL
    have cM4 := hq9.1
    clear hq9
    refine z_istore_n F dX12_readAtom_12 rfl (by decide) (ls' := [(1, ii v3), (0, .ref (ad 131))]) rfl ?_
    refine z_iload_n F dX12_readAtom_13 rfl (q := 0) rfl ?_
    refine z_iconst F dX12_readAtom_14 ?_
    refine z_icmp_eq (tgt := 29) F dX12_readAtom_15 (by decide +kernel) (by omega) (by omega) (fun c6 => ?_) (fun c6 => ?_)
    · refine z_aload_n F dX12_readAtom_29 rfl (q := 1) rfl ?_
      refine z_bipush F dX12_readAtom_30 (by decide +kernel) ?_
      refine zv_i (rest := []) F (kp_X12_isSign l M4 ⟨hI, hW⟩ 40 (by omega) (by omega)) cs_X12_162 (T := TX12) (N := 44) (ci := 12) rfl gs_131 (by omega) (by decide) rfl rfl rfl (Nat.le_of_ble_eq_true rfl) dX12_readAtom_32 (fun v7 M8 rv7 hI p9 => ?_)
      obtain ⟨hI, hW⟩ := hI
      obtain ⟨⟨av7, bv7⟩, rfl, xp9⟩ := p9
      refine z_if_eq (tgt := 65) F dX12_readAtom_35 (by decide +kernel) (by omega) (fun c10 => ?_) (fun c10 => ?_)
      · refine z_aload_n F dX12_readAtom_65 rfl (q := 1) rfl ?_
        refine z_iconst F dX12_readAtom_66 ?_
        refine z_sipush F dX12_readAtom_67 (by decide +kernel) ?_
        refine zv_i (rest := []) F (kp_X12_number l M4 ⟨hI, hW⟩ 0 (by omega) (by omega) 999 (by omega) (by omega) (by omega)) cs_X12_199 (T := TX12) (N := 44) (ci := 12) rfl gs_131 (by omega) (by decide) rfl rfl rfl (Nat.le_of_ble_eq_true rfl) dX12_readAtom_70 (fun v11 M12 rv11 hI p13 => ?_)
        obtain ⟨hI, hW⟩ := hI
        obtain ⟨⟨av11, bv11⟩, fp13, xp13⟩ := p13
        have hF := hF.call fp13 (by decide)
        have tM12_133_6 : M12 133 6 = M4 133 6 := fp13.at (by decide)
        have tM12_133_1 : M12 133 1 = M4 133 1 := fp13.at (by decide)
        have hq9 := wl_fr fp13 (by decide)
        have hL := hq9.2 hL
        have cM12 := hq9.1
        clear hq9
        have hkv11 : 0 ≤ v11 ∧ v11 ≤ 999 := by omega
        refine z_istore_n F dX12_readAtom_73 rfl (by decide) (ls' := [(2, ii v11), (1, ii v3), (0, .ref (ad 131))]) rfl ?_
        refine z_aload_n F dX12_readAtom_74 rfl (q := 2) rfl ?_
        refine z_sipush F dX12_readAtom_75 (by decide +kernel) ?_
        refine z_iload_n F dX12_readAtom_78 rfl (q := 0) rfl ?_
        refine z_iadd F dX12_readAtom_79 ?_
        refine zv_v (rest := []) F (kp_X12_laysStep l M12 ⟨hI, hW⟩ (1000 + v11) (by omega) (by omega) (by omega) hL (by omega)) cs_X12_149 (T := TX12) (N := 44) (ci := 12) rfl gs_131 (by omega) (by decide) rfl rfl rfl (Nat.le_of_ble_eq_true rfl) dX12_readAtom_80 (fun M14 hI p15 => ?_)
        obtain ⟨hI, hW⟩ := hI
        obtain ⟨fp15, xp15⟩ := p15
        have hF := hF.call fp15 (by decide)
        have tM14_131_7 : M14 131 7 = M12 131 7 := fp15.at (by decide)
        have tM14_131_8 : M14 131 8 = M12 131 8 := fp15.at (by decide)
        have tM14_131_9 : M14 131 9 = M12 131 9 := fp15.at (by decide)
        have tM14_131_10 : M14 131 10 = M12 131 10 := fp15.at (by decide)
        have tM14_131_12 : M14 131 12 = M12 131 12 := fp15.at (by decide)
        have tM14_131_16 : M14 131 16 = M12 131 16 := fp15.at (by decide)
        obtain ⟨hL, xp15⟩ := xp15
        exact hret _ 83 _ ⟨hI, hW⟩ ⟨hF, ⟨hL, by omega⟩⟩ dX12_readAtom_83
      · refine z_aload_n F dX12_readAtom_38 rfl (q := 1) rfl ?_
        refine zv_v (rest := []) F (kp_X12_goesIn l M4 ⟨hI, hW⟩ (by omega) (by omega)) cs_X12_159 (T := TX12) (N := 44) (ci := 12) rfl gs_131 (by omega) (by decide) rfl rfl rfl (Nat.le_of_ble_eq_true rfl) dX12_readAtom_39 (fun M16 hI p17 => ?_)
        obtain ⟨hI, hW⟩ := hI
        obtain ⟨fp17, xp17⟩ := p17
        have hF := hF.call fp17 (by decide)
        have tM16_133_6 : M16 133 6 = M4 133 6 := fp17.at (by decide)
        have tM16_133_1 : M16 133 1 = M4 133 1 := fp17.at (by decide)
        have hq9 := wl_fr fp17 (by decide)
        have hL := hq9.2 hL
        have cM16 := hq9.1
        clear hq9
        refine z_aload_n F dX12_readAtom_42 rfl (q := 1) rfl ?_
        refine zv_v (rest := []) F (ih.2.2.2.1 M16 ⟨hI, hW⟩ (by omega) (by omega) (by omega) (by omega) hL (by omega)) cs_X12_171 (T := TX12) (N := 44) (ci := 12) rfl gs_131 (by omega) (by decide) rfl rfl rfl (Nat.le_of_ble_eq_true rfl) dX12_readAtom_43 (fun M18 hI p19 => ?_)
        obtain ⟨hI, hW⟩ := hI
        obtain ⟨fp19, xp19⟩ := p19
        have hF := hF.call fp19 (by decide)
        obtain ⟨hL, xp19⟩ := xp19
        refine z_aload_n F dX12_readAtom_46 rfl (q := 1) rfl ?_
        refine z_bipush F dX12_readAtom_47 (by decide +kernel) ?_
        refine zv_v (rest := []) F (kp_X12_mustSign l M18 ⟨hI, hW⟩ 41 (by omega) (by omega) (by omega)) cs_X12_168 (T := TX12) (N := 44) (ci := 12) rfl gs_131 (by omega) (by decide) rfl rfl rfl (Nat.le_of_ble_eq_true rfl) dX12_readAtom_49 (fun M20 hI p21 => ?_)
        obtain ⟨hI, hW⟩ := hI
        obtain ⟨fp21, xp21⟩ := p21
        have hF := hF.call fp21 (by decide)
        have tM20_133_6 : M20 133 6 = M18 133 6 := fp21.at (by decide)
        have tM20_133_1 : M20 133 1 = M18 133 1 := fp21.at (by decide)
        have hq9 := wl_fr fp21 (by decide)
        have hL := hq9.2 hL
        have cM20 := hq9.1
        clear hq9
        refine z_aload_n F dX12_readAtom_52 rfl (q := 1) rfl ?_
        refine z_dup F dX12_readAtom_53 rfl ?_
        refine gf_X12_141 F hI gs_131 rfl bd_131_16 dX12_readAtom_54 (fun v22 ev22 av22 bv22 => ?_)
        refine z_iconst F dX12_readAtom_57 ?_
        refine z_isub F dX12_readAtom_58 ?_
        refine z_wrap (fun v23 rv23 wv23 => ?_)
        refine pf_X12_141 F hI gs_131 rfl bd_131_16 rfl rfl dX12_readAtom_59 (by omega) (by omega) (fun M25 hI sf24 f24 => ?_)
        have tM25_131_7 : M25 131 7 = M20 131 7 := f24 131 7 (fun q => absurd q.2 (by decide))
        have tM25_131_8 : M25 131 8 = M20 131 8 := f24 131 8 (fun q => absurd q.2 (by decide))
        have tM25_131_9 : M25 131 9 = M20 131 9 := f24 131 9 (fun q => absurd q.2 (by decide))
        have tM25_131_10 : M25 131 10 = M20 131 10 := f24 131 10 (fun q => absurd q.2 (by decide))
        have tM25_131_12 : M25 131 12 = M20 131 12 := f24 131 12 (fun q => absurd q.2 (by decide))
        have tM25_133_6 : M25 133 6 = M20 133 6 := f24 133 6 (fun q => absurd q.1 (by decide))
        have tM25_133_1 : M25 133 1 = M20 133 1 := f24 133 1 (fun q => absurd q.1 (by decide))
        have hq9 := wl_ws f24 (by decide)
        have hL := hq9.2 hL
        have cM25 := hq9.1
        clear hq9
        have hF := hF.wrf f24 (by decide) (by decide)
        have hW : WFk M25 := hW.site f24 (by decide)
        refine z_goto (tgt := 83) F dX12_readAtom_62 (by decide +kernel) ?_
        exact hret _ 83 _ ⟨hI, hW⟩ ⟨hF, ⟨hL, by omega⟩⟩ dX12_readAtom_83
    · refine z_aload_n F dX12_readAtom_18 rfl (q := 1) rfl ?_
      refine z_bipush F dX12_readAtom_19 (by decide +kernel) ?_
      refine z_iload_n F dX12_readAtom_21 rfl (q := 0) rfl ?_
      refine z_iadd F dX12_readAtom_22 ?_
      refine zv_v (rest := []) F (kp_X12_laysStep l M4 ⟨hI, hW⟩ (100 + v3) (by omega) (by omega) (by omega) hL (by omega)) cs_X12_149 (T := TX12) (N := 44) (ci := 12) rfl gs_131 (by omega) (by decide) rfl rfl rfl (Nat.le_of_ble_eq_true rfl) dX12_readAtom_23 (fun M26 hI p27 => ?_)
      obtain ⟨hI, hW⟩ := hI
      obtain ⟨fp27, xp27⟩ := p27
      have hF := hF.call fp27 (by decide)
      have tM26_131_7 : M26 131 7 = M4 131 7 := fp27.at (by decide)
      have tM26_131_8 : M26 131 8 = M4 131 8 := fp27.at (by decide)
      have tM26_131_9 : M26 131 9 = M4 131 9 := fp27.at (by decide)
      have tM26_131_10 : M26 131 10 = M4 131 10 := fp27.at (by decide)
      have tM26_131_12 : M26 131 12 = M4 131 12 := fp27.at (by decide)
      have tM26_131_16 : M26 131 16 = M4 131 16 := fp27.at (by decide)
      obtain ⟨hL, xp27⟩ := xp27
      refine z_goto (tgt := 83) F dX12_readAtom_26 (by decide +kernel) ?_
      exact hret _ 83 _ ⟨hI, hW⟩ ⟨hF, ⟨hL, by omega⟩⟩ dX12_readAtom_83
  · exact hret _ 7 _ ⟨hI, hW⟩ ⟨hF, ⟨hL, by omega⟩⟩ dX12_readAtom_7
theorem RdR_all (l : Launch) : ∀ nr : Nat, RdR l nr := by
  intro nr
  induction nr with
  | zero => exact ⟨fun M hJ hp0 hp1 hp2 hp3 hp4 hmu => by exfalso; omega, fun M hJ hp0 hp1 hp2 hp3 hp4 hmu => by exfalso; omega, fun M hJ hp0 hp1 hp2 hp3 hp4 hmu => by exfalso; omega, fun M hJ hp0 hp1 hp2 hp3 hp4 hmu => by exfalso; omega, fun M hJ hp0 hp1 hp2 hp3 hp4 hmu => by exfalso; omega, fun M hJ hp0 hp1 hp2 hp3 hp4 hmu => by exfalso; omega⟩
  | succ nr ih => exact ⟨kp_X12_readTruth l nr ih, kp_X12_readBoth l nr ih, kp_X12_readUnit l nr ih, kp_X12_readSum l nr ih, kp_X12_readTerm l nr ih, kp_X12_readAtom l nr ih⟩
set_option maxHeartbeats 4000000 in
set_option maxRecDepth 4000 in
theorem kp_X12_begins (l : Launch) (M : Mem) (hJ : Iw M) (x0 : Int) (hx0a : 2 ≤ x0) (hx0b : x0 ≤ 4) (x1 : Int) (hx1a : 6 ≤ x1) (hx1b : x1 ≤ 20) (hp0 : 0 ≤ M 131 9 ∧ M 131 9 ≤ M 131 8 ∧ M 131 8 ≤ M 131 7 ∧ M 131 7 ≤ 900 ∧ (M 131 10 = 0 ∨ M 131 9 < M 131 8)) : CI l yX12_begins cX12_begins 3 (some .boolean) 3 (fun ad => [.ref (ad 131), ii x0, ii x1]) M (fun z M' => (0 ≤ z ∧ z ≤ 1) ∧ Fr [131] M M' ∧ (M' 131 7 = M 131 7 ∧ M' 131 16 = M 131 16 ∧ M 131 9 ≤ M' 131 9 ∧ 0 ≤ M' 131 9 ∧ M' 131 9 ≤ M' 131 8 ∧ M' 131 8 ≤ M' 131 7 ∧ M' 131 7 ≤ 900 ∧ (M' 131 10 = 0 ∨ M' 131 9 < M' 131 8) ∧ (z = 1 → M' 131 12 = 0 ∧ M 131 12 = 0 ∧ ¬ M 133 x0.toNat = x1) ∧ (M' 131 12 = 0 → M 131 12 = 0))) := by
  obtain ⟨hI, hW⟩ := hJ
  have hF : Fr [131] M M := Fr.rf
  refine en_z (by decide +kernel) (fun ad => by exact Nat.le_of_ble_eq_true rfl) (fun D cy ad A p e s m args below meth c Q F hret => ?_)
  refine z_eq (ls' := [(0, .ref (ad 131)), (1, ii x0), (2, ii x1)]) rfl rfl rfl ?_
  refine z_aload_n F dX12_begins_0 rfl (q := 0) rfl ?_
  refine rf_X12_13 F gs_131 rfl dX12_begins_1 ?_
  refine z_iload_n F dX12_begins_4 rfl (q := 1) rfl ?_
  refine z_ialdB F hI gs_133 (by omega) (by omega) (by decide) kn_w dX12_begins_5 (fun v1 ev1 av1 bv1 rv1 => ?_)
  refine z_iload_n F dX12_begins_6 rfl (q := 2) rfl ?_
  refine z_icmp_ne (tgt := 15) F dX12_begins_7 (by decide +kernel) (by omega) (by omega) (fun c2 => ?_) (fun c2 => ?_)
  · refine z_aload_n F dX12_begins_15 rfl (q := 0) rfl ?_
    refine gf_X12_108 F hI gs_131 rfl bd_131_12 dX12_begins_16 (fun v3 ev3 av3 bv3 => ?_)
    refine z_if_ne (tgt := 26) F dX12_begins_19 (by decide +kernel) (by omega) (fun c4 => ?_) (fun c4 => ?_)
    · refine z_aload_n F dX12_begins_26 rfl (q := 0) rfl ?_
      refine gf_X12_108 F hI gs_131 rfl bd_131_12 dX12_begins_27 (fun v5 ev5 av5 bv5 => ?_)
      have zv5 : v3 = v5 := ev3.trans ev5.symm
      subst zv5
      refine z_if_ne (tgt := 37) F dX12_begins_30 (by decide +kernel) (by omega) (fun c6 => ?_) (fun c6 => by exfalso; omega)
      refine z_iconst F dX12_begins_37 ?_
      exact hret _ _ 38 _ ⟨by omega, by omega⟩ ⟨hI, hW⟩ ⟨⟨by omega, by omega⟩, hF, (by omega)⟩ dX12_begins_38
    · refine z_aload_n F dX12_begins_22 rfl (q := 0) rfl ?_
      refine zv_v (rest := []) F (kp_X12_readsOn l M ⟨hI, hW⟩ (by omega)) cs_X12_127 (T := TX12) (N := 44) (ci := 12) rfl gs_131 (by decide) (by decide) rfl rfl rfl (Nat.le_of_ble_eq_true rfl) dX12_begins_23 (fun M7 hI p8 => ?_)
      obtain ⟨hI, hW⟩ := hI
      obtain ⟨fp8, xp8⟩ := p8
      have hF := hF.call fp8 (by decide)
      have tM7_133_6 : M7 133 6 = M 133 6 := fp8.at (by decide)
      have tM7_133_1 : M7 133 1 = M 133 1 := fp8.at (by decide)
      refine z_aload_n F dX12_begins_26 rfl (q := 0) rfl ?_
      refine gf_X12_108 F hI gs_131 rfl bd_131_12 dX12_begins_27 (fun v9 ev9 av9 bv9 => ?_)
      refine z_if_ne (tgt := 37) F dX12_begins_30 (by decide +kernel) (by omega) (fun c10 => ?_) (fun c10 => ?_)
      · refine z_iconst F dX12_begins_37 ?_
        exact hret _ _ 38 _ ⟨by omega, by omega⟩ ⟨hI, hW⟩ ⟨⟨by omega, by omega⟩, hF, (by omega)⟩ dX12_begins_38
      · refine z_iconst F dX12_begins_33 ?_
        refine z_goto (tgt := 38) F dX12_begins_34 (by decide +kernel) ?_
        exact hret _ _ 38 _ ⟨by omega, by omega⟩ ⟨hI, hW⟩ ⟨⟨by omega, by omega⟩, hF, (by omega)⟩ dX12_begins_38
  · refine z_aload_n F dX12_begins_10 rfl (q := 0) rfl ?_
    refine z_iconst F dX12_begins_11 ?_
    refine zv_v (rest := []) F (kp_X12_blames l M ⟨hI, hW⟩ 4 (by omega) (by omega)) cs_X12_133 (T := TX12) (N := 44) (ci := 12) rfl gs_131 (by decide) (by decide) rfl rfl rfl (Nat.le_of_ble_eq_true rfl) dX12_begins_12 (fun M11 hI p12 => ?_)
    obtain ⟨hI, hW⟩ := hI
    obtain ⟨fp12, xp12⟩ := p12
    have hF := hF.call fp12 (by decide)
    have tM11_133_6 : M11 133 6 = M 133 6 := fp12.at (by decide)
    have tM11_133_1 : M11 133 1 = M 133 1 := fp12.at (by decide)
    refine z_aload_n F dX12_begins_15 rfl (q := 0) rfl ?_
    refine gf_X12_108 F hI gs_131 rfl bd_131_12 dX12_begins_16 (fun v13 ev13 av13 bv13 => ?_)
    refine z_if_ne (tgt := 26) F dX12_begins_19 (by decide +kernel) (by omega) (fun c14 => ?_) (fun c14 => ?_)
    · refine z_aload_n F dX12_begins_26 rfl (q := 0) rfl ?_
      refine gf_X12_108 F hI gs_131 rfl bd_131_12 dX12_begins_27 (fun v15 ev15 av15 bv15 => ?_)
      have zv15 : v13 = v15 := ev13.trans ev15.symm
      subst zv15
      refine z_if_ne (tgt := 37) F dX12_begins_30 (by decide +kernel) (by omega) (fun c16 => ?_) (fun c16 => by exfalso; omega)
      refine z_iconst F dX12_begins_37 ?_
      exact hret _ _ 38 _ ⟨by omega, by omega⟩ ⟨hI, hW⟩ ⟨⟨by omega, by omega⟩, hF, (by omega)⟩ dX12_begins_38
    · refine z_aload_n F dX12_begins_22 rfl (q := 0) rfl ?_
      refine zv_v (rest := []) F (kp_X12_readsOn l M11 ⟨hI, hW⟩ (by omega)) cs_X12_127 (T := TX12) (N := 44) (ci := 12) rfl gs_131 (by decide) (by decide) rfl rfl rfl (Nat.le_of_ble_eq_true rfl) dX12_begins_23 (fun M17 hI p18 => ?_)
      obtain ⟨hI, hW⟩ := hI
      obtain ⟨fp18, xp18⟩ := p18
      have hF := hF.call fp18 (by decide)
      have tM17_133_6 : M17 133 6 = M11 133 6 := fp18.at (by decide)
      have tM17_133_1 : M17 133 1 = M11 133 1 := fp18.at (by decide)
      refine z_aload_n F dX12_begins_26 rfl (q := 0) rfl ?_
      refine gf_X12_108 F hI gs_131 rfl bd_131_12 dX12_begins_27 (fun v19 ev19 av19 bv19 => ?_)
      refine z_if_ne (tgt := 37) F dX12_begins_30 (by decide +kernel) (by omega) (fun c20 => ?_) (fun c20 => ?_)
      · refine z_iconst F dX12_begins_37 ?_
        exact hret _ _ 38 _ ⟨by omega, by omega⟩ ⟨hI, hW⟩ ⟨⟨by omega, by omega⟩, hF, (by omega)⟩ dX12_begins_38
      · refine z_iconst F dX12_begins_33 ?_
        refine z_goto (tgt := 38) F dX12_begins_34 (by decide +kernel) ?_
        exact hret _ _ 38 _ ⟨by omega, by omega⟩ ⟨hI, hW⟩ ⟨⟨by omega, by omega⟩, hF, (by omega)⟩ dX12_begins_38
set_option maxHeartbeats 4000000 in
set_option maxRecDepth 4000 in
theorem kp_X12_readTouch (l : Launch) (M : Mem) (hJ : Iw M) (hp0 : 0 ≤ M 131 9 ∧ M 131 9 ≤ M 131 8 ∧ M 131 8 ≤ M 131 7 ∧ M 131 7 ≤ 900 ∧ (M 131 10 = 0 ∨ M 131 9 < M 131 8)) (hp1 : M 133 6 ≤ M 131 9) (hp2 : Wl M) (hp3 : M 131 16 = 0) : CV l yX12_readTouch cX12_readTouch 5 none 7 (fun ad => [.ref (ad 131)]) M (fun M' => Fr [131, 133] M M' ∧ (Wl M' ∧ M' 131 7 = M 131 7 ∧ M' 131 16 = M 131 16 ∧ M 131 9 ≤ M' 131 9 ∧ 0 ≤ M' 131 9 ∧ M' 131 9 ≤ M' 131 8 ∧ M' 131 8 ≤ M' 131 7 ∧ M' 131 7 ≤ 900 ∧ (M' 131 10 = 0 ∨ M' 131 9 < M' 131 8) ∧ M' 133 6 = M 133 6 ∧ M' 133 1 = M 133 1 ∧ (M' 131 12 = 0 → M 131 12 = 0))) := by
  obtain ⟨hI, hW⟩ := hJ
  have hF : Fr [131, 133] M M := Fr.rf
  refine en_v (by decide +kernel) (fun ad => by exact Nat.le_of_ble_eq_true rfl) (fun D cy ad A p e s m args below meth c Q F hret => ?_)
  refine z_eq (ls' := [(0, .ref (ad 131))]) rfl rfl rfl ?_
  have hL := hp2
  obtain ⟨g1, g2, g3, g4, hT⟩ := hp0
  have hT : Tk M := hT
  have kbM : 0 ≤ M 131 12 ∧ M 131 12 ≤ 4 := hI.at (show Bd 131 12 = (0, 4) from rfl)
  refine z_aload_n F dX12_readTouch_0 rfl (q := 0) rfl ?_
  refine z_iconst F dX12_readTouch_1 ?_
  refine z_bipush F dX12_readTouch_2 (by decide +kernel) ?_
  refine zv_i (rest := []) F (kp_X12_begins l M ⟨hI, hW⟩ 3 (by omega) (by omega) 20 (by omega) (by omega) ⟨by omega, by omega, by omega, by omega, hT⟩) cs_X12_203 (T := TX12) (N := 44) (ci := 12) rfl gs_131 (by decide) (by decide) rfl rfl rfl (Nat.le_of_ble_eq_true rfl) dX12_readTouch_4 (fun v1 M2 rv1 hI p3 => ?_)
  obtain ⟨hI, hW⟩ := hI
  obtain ⟨⟨av1, bv1⟩, fp3, xp3⟩ := p3
  have hF := hF.call fp3 (by decide)
  have tM2_133_6 : M2 133 6 = M 133 6 := fp3.at (by decide)
  have tM2_133_1 : M2 133 1 = M 133 1 := fp3.at (by decide)
  have tM2_133_2 : M2 133 2 = M 133 2 := fp3.at (by decide)
  have tM2_133_4 : M2 133 4 = M 133 4 := fp3.at (by decide)
  have hq9 := wl_fr fp3 (by decide)
  have hL := hq9.2 hL
  have cM2 := hq9.1
  clear hq9
  have hbv1 : M 133 (3 : Int).toNat = M 133 3 := rfl
  obtain ⟨qp3_0, qp3_1, qp3_2, qp3_3, qp3_4, qp3_5, qp3_6, qp3_7, qp3_8, qp3_9⟩ := xp3
  have kbM2 : 0 ≤ M2 131 12 ∧ M2 131 12 ≤ 4 := hI.at (show Bd 131 12 = (0, 4) from rfl)
  have hT : Tk M2 := qp3_7
  clear qp3_7
  have lbqp3_9 : M 131 12 ≤ 4 * M2 131 12 := by omega
  clear qp3_9
  refine z_if_ne (tgt := 11) F dX12_readTouch_7 (by decide +kernel) (by omega) (fun c4 => ?_) (fun c4 => ?_)
  · refine z_aload_n F dX12_readTouch_11 rfl (q := 0) rfl ?_
    refine z_iconst F dX12_readTouch_12 ?_
    refine z_aload_n F dX12_readTouch_13 rfl (q := 0) rfl ?_
    refine rf_X12_13 F gs_131 rfl dX12_readTouch_14 ?_
    refine z_iconst F dX12_readTouch_17 ?_
    refine z_iald F hI gs_133 (by omega) (by omega) (by decide) (show Bd 133 1 = (0, 10) from rfl) dX12_readTouch_18 (fun v5 (ev5 : v5 = M2 133 1) av5 bv5 => ?_)
    refine z_iconst F dX12_readTouch_19 ?_
    refine z_isub F dX12_readTouch_20 ?_
    refine zv_i (rest := []) F (kp_X12_number l M2 ⟨hI, hW⟩ 0 (by omega) (by omega) (v5 - 1) (by omega) (by omega) ⟨by omega, by omega, by omega, by omega, hT⟩) cs_X12_199 (T := TX12) (N := 44) (ci := 12) rfl gs_131 (by decide) (by decide) rfl rfl rfl (Nat.le_of_ble_eq_true rfl) dX12_readTouch_21 (fun v6 M7 rv6 hI p8 => ?_)
    obtain ⟨hI, hW⟩ := hI
    obtain ⟨⟨av6, bv6⟩, fp8, xp8⟩ := p8
    have hF := hF.call fp8 (by decide)
    have tM7_133_6 : M7 133 6 = M2 133 6 := fp8.at (by decide)
    have tM7_133_1 : M7 133 1 = M2 133 1 := fp8.at (by decide)
    have tM7_133_2 : M7 133 2 = M2 133 2 := fp8.at (by decide)
    have tM7_133_4 : M7 133 4 = M2 133 4 := fp8.at (by decide)
    have hq9 := wl_fr fp8 (by decide)
    have hL := hq9.2 hL
    have cM7 := hq9.1
    clear hq9
    have hkv6 : 0 ≤ v6 ∧ v6 ≤ 9 := by omega
    obtain ⟨qp8_0, qp8_1, qp8_2, qp8_3, qp8_4, qp8_5, qp8_6, qp8_7, qp8_8, qp8_9⟩ := xp8
    have kbM7 : 0 ≤ M7 131 12 ∧ M7 131 12 ≤ 4 := hI.at (show Bd 131 12 = (0, 4) from rfl)
    have hT : Tk M7 := qp8_7
    clear qp8_7
    clear qp8_8
    have lbqp8_9 : M2 131 12 ≤ 4 * M7 131 12 := by omega
    have lpqp8_9 : M2 131 9 + 1 ≤ M7 131 9 + M7 131 12 := by omega
    clear qp8_9
    refine z_istore_n F dX12_readTouch_24 rfl (by decide) (ls' := [(1, ii v6), (0, .ref (ad 131))]) rfl ?_
    have cut98 : ∀ (M9 : Mem), Inv M9 → WFk M9 → Fr [131, 133] M M9 → (0 ≤ M9 131 9 ∧ M9 131 9 ≤ M9 131 8 ∧ M9 131 8 ≤ M9 131 7 ∧ M9 131 7 ≤ 900) → (M9 131 7 = M 131 7 ∧ M9 131 16 = M 131 16 ∧ M 131 9 ≤ M9 131 9 ∧ M9 133 6 = M 133 6 ∧ M9 133 1 = M 133 1 ∧ M9 133 2 = M 133 2 ∧ M9 133 4 = M 133 4 ∧ M 131 12 ≤ 4 * M9 131 12 ∧ 0 ≤ M9 131 12 ∧ M9 131 12 ≤ 4) → (Wl M9) → (Tk M9) → Z D cy ad p l e (RMh 7) s m args below meth c A 5 0 0 Q 98 [(0, .ref (ad 131)), (1, ii v6)] [] M9 := by
      intro M9 hI hW hF j98_0 j98_1 j98_2 j98_3
      have hL := j98_2
      have hT := j98_3
      refine z_aload_n F dX12_readTouch_98 rfl (q := 0) rfl ?_
      refine z_iconst F dX12_readTouch_99 ?_
      refine z_aload_n F dX12_readTouch_100 rfl (q := 0) rfl ?_
      refine rf_X12_13 F gs_131 rfl dX12_readTouch_101 ?_
      refine z_iconst F dX12_readTouch_104 ?_
      refine z_iald F hI gs_133 (by omega) (by omega) (by decide) (show Bd 133 1 = (0, 10) from rfl) dX12_readTouch_105 (fun v10 (ev10 : v10 = M9 133 1) av10 bv10 => ?_)
      refine z_iconst F dX12_readTouch_106 ?_
      refine z_isub F dX12_readTouch_107 ?_
      refine zv_i (rest := []) F (kp_X12_number l M9 ⟨hI, hW⟩ 0 (by omega) (by omega) (v10 - 1) (by omega) (by omega) ⟨by omega, by omega, by omega, by omega, hT⟩) cs_X12_199 (T := TX12) (N := 44) (ci := 12) rfl gs_131 (by decide) (by decide) rfl rfl rfl (Nat.le_of_ble_eq_true rfl) dX12_readTouch_108 (fun v11 M12 rv11 hI p13 => ?_)
      obtain ⟨hI, hW⟩ := hI
      obtain ⟨⟨av11, bv11⟩, fp13, xp13⟩ := p13
      have hF := hF.call fp13 (by decide)
      have tM12_133_6 : M12 133 6 = M9 133 6 := fp13.at (by decide)
      have tM12_133_1 : M12 133 1 = M9 133 1 := fp13.at (by decide)
      have tM12_133_2 : M12 133 2 = M9 133 2 := fp13.at (by decide)
      have tM12_133_4 : M12 133 4 = M9 133 4 := fp13.at (by decide)
      have hq9 := wl_fr fp13 (by decide)
      have hL := hq9.2 hL
      have cM12 := hq9.1
      clear hq9
      have hkv11 : 0 ≤ v11 ∧ v11 ≤ 9 := by omega
      obtain ⟨qp13_0, qp13_1, qp13_2, qp13_3, qp13_4, qp13_5, qp13_6, qp13_7, qp13_8, qp13_9⟩ := xp13
      have kbM12 : 0 ≤ M12 131 12 ∧ M12 131 12 ≤ 4 := hI.at (show Bd 131 12 = (0, 4) from rfl)
      have hT : Tk M12 := qp13_7
      clear qp13_7
      clear qp13_8
      have lbqp13_9 : M9 131 12 ≤ 4 * M12 131 12 := by omega
      have lpqp13_9 : M9 131 9 + 1 ≤ M12 131 9 + M12 131 12 := by omega
      clear qp13_9
      refine z_istore_n F dX12_readTouch_111 rfl (by decide) (ls' := [(3, ii v11), (0, .ref (ad 131)), (1, ii v6)]) rfl ?_
      have cut128 : ∀ (y15 : Int) (M14 : Mem), Inv M14 → WFk M14 → Fr [131, 133] M M14 → 1 ≤ y15 → y15 ≤ 2 → (0 ≤ M14 131 9 ∧ M14 131 9 ≤ M14 131 8 ∧ M14 131 8 ≤ M14 131 7 ∧ M14 131 7 ≤ 900) → (M14 131 7 = M 131 7 ∧ M14 131 16 = M 131 16 ∧ M 131 9 ≤ M14 131 9 ∧ M14 133 6 = M 133 6 ∧ M14 133 1 = M 133 1 ∧ M14 133 2 = M 133 2 ∧ M14 133 4 = M 133 4 ∧ M 131 12 ≤ 4 * M14 131 12 ∧ 0 ≤ M14 131 12 ∧ M14 131 12 ≤ 4) → (Wl M14) → (Tk M14) → Z D cy ad p l e (RMh 7) s m args below meth c A 5 0 0 Q 128 [(0, .ref (ad 131)), (1, ii v6), (3, ii v11), (4, ii y15)] [] M14 := by
        intro y15 M14 hI hW hF ay15 by15 j128_0 j128_1 j128_2 j128_3
        have hL := j128_2
        have hT := j128_3
        refine z_aload_n F dX12_readTouch_128 rfl (q := 0) rfl ?_
        refine gf_X12_108 F hI gs_131 rfl bd_131_12 dX12_readTouch_129 (fun v16 ev16 av16 bv16 => ?_)
        refine z_if_eq (tgt := 136) F dX12_readTouch_132 (by decide +kernel) (by omega) (fun c17 => ?_) (fun c17 => ?_)
        · refine z_aload_n F dX12_readTouch_136 rfl (q := 0) rfl ?_
          refine rf_X12_13 F gs_131 rfl dX12_readTouch_137 ?_
          refine z_bipush F dX12_readTouch_140 (by decide +kernel) ?_
          refine z_bipush F dX12_readTouch_142 (by decide +kernel) ?_
          refine z_iload_n F dX12_readTouch_144 rfl (q := 1) rfl ?_
          refine z_imul F dX12_readTouch_145 ?_
          refine z_iadd F dX12_readTouch_146 ?_
          refine z_iload_n F dX12_readTouch_147 rfl (q := 2) rfl ?_
          refine z_iadd F dX12_readTouch_148 ?_
          refine z_iload F dX12_readTouch_149 (q := 3) rfl ?_
          refine z_iast F hI gs_133 (by omega) (by omega) (by decide) (bd_133.trans (kn_touch (by omega) (by omega))) dX12_readTouch_151 (by omega) (by omega) (fun M19 hI sf18 f18 => ?_)
          have tM19_131_7 : M19 131 7 = M14 131 7 := f18 131 7 (fun q => absurd q.1 (by decide))
          have tM19_131_8 : M19 131 8 = M14 131 8 := f18 131 8 (fun q => absurd q.1 (by decide))
          have tM19_131_9 : M19 131 9 = M14 131 9 := f18 131 9 (fun q => absurd q.1 (by decide))
          have tM19_131_10 : M19 131 10 = M14 131 10 := f18 131 10 (fun q => absurd q.1 (by decide))
          have tM19_131_12 : M19 131 12 = M14 131 12 := f18 131 12 (fun q => absurd q.1 (by decide))
          have tM19_131_16 : M19 131 16 = M14 131 16 := f18 131 16 (fun q => absurd q.1 (by decide))
          have tM19_133_6 : M19 133 6 = M14 133 6 := f18 133 6 (fun q => by have := q.2; omega)
          have tM19_133_1 : M19 133 1 = M14 133 1 := f18 133 1 (fun q => by have := q.2; omega)
          have tM19_133_2 : M19 133 2 = M14 133 2 := f18 133 2 (fun q => by have := q.2; omega)
          have tM19_133_4 : M19 133 4 = M14 133 4 := f18 133 4 (fun q => by have := q.2; omega)
          have hT := tk_ws f18 (by decide) hT
          have hq9 := wl_wr f18 (by omega)
          have hL := hq9.2 hL
          have cM19 := hq9.1
          clear hq9
          have hF := hF.wr f18 (by decide) (by decide)
          have hW : WFk M19 := hW.site f18 (by decide)
          refine z_aload_n F dX12_readTouch_152 rfl (q := 0) rfl ?_
          refine rf_X12_13 F gs_131 rfl dX12_readTouch_153 ?_
          refine z_bipush F dX12_readTouch_156 (by decide +kernel) ?_
          refine z_bipush F dX12_readTouch_158 (by decide +kernel) ?_
          refine z_iload_n F dX12_readTouch_160 rfl (q := 2) rfl ?_
          refine z_imul F dX12_readTouch_161 ?_
          refine z_iadd F dX12_readTouch_162 ?_
          refine z_iload_n F dX12_readTouch_163 rfl (q := 1) rfl ?_
          refine z_iadd F dX12_readTouch_164 ?_
          refine z_iload F dX12_readTouch_165 (q := 3) rfl ?_
          refine z_iast F hI gs_133 (by omega) (by omega) (by decide) (bd_133.trans (kn_touch (by omega) (by omega))) dX12_readTouch_167 (by omega) (by omega) (fun M21 hI sf20 f20 => ?_)
          have tM21_131_7 : M21 131 7 = M19 131 7 := f20 131 7 (fun q => absurd q.1 (by decide))
          have tM21_131_8 : M21 131 8 = M19 131 8 := f20 131 8 (fun q => absurd q.1 (by decide))
          have tM21_131_9 : M21 131 9 = M19 131 9 := f20 131 9 (fun q => absurd q.1 (by decide))
          have tM21_131_10 : M21 131 10 = M19 131 10 := f20 131 10 (fun q => absurd q.1 (by decide))
          have tM21_131_12 : M21 131 12 = M19 131 12 := f20 131 12 (fun q => absurd q.1 (by decide))
          have tM21_131_16 : M21 131 16 = M19 131 16 := f20 131 16 (fun q => absurd q.1 (by decide))
          have tM21_133_6 : M21 133 6 = M19 133 6 := f20 133 6 (fun q => by have := q.2; omega)
          have tM21_133_1 : M21 133 1 = M19 133 1 := f20 133 1 (fun q => by have := q.2; omega)
          have tM21_133_2 : M21 133 2 = M19 133 2 := f20 133 2 (fun q => by have := q.2; omega)
          have tM21_133_4 : M21 133 4 = M19 133 4 := f20 133 4 (fun q => by have := q.2; omega)
          have hT := tk_ws f20 (by decide) hT
          have hq9 := wl_wr f20 (by omega)
          have hL := hq9.2 hL
          have cM21 := hq9.1
          clear hq9
          have hF := hF.wr f20 (by decide) (by decide)
          have hW : WFk M21 := hW.site f20 (by decide)
          refine z_aload_n F dX12_readTouch_168 rfl (q := 0) rfl ?_
          refine rf_X12_13 F gs_131 rfl dX12_readTouch_169 ?_
          refine z_iconst F dX12_readTouch_172 ?_
          refine z_dup2 F dX12_readTouch_173 rfl rfl ?_
          refine z_iald F hI gs_133 (by omega) (by omega) (by decide) (show Bd 133 3 = (-2147483648, 2147483647) from rfl) dX12_readTouch_174 (fun v22 (ev22 : v22 = M21 133 3) av22 bv22 => ?_)
          refine z_iconst F dX12_readTouch_175 ?_
          refine z_iadd F dX12_readTouch_176 ?_
          refine z_wrap (fun v23 rv23 wv23 => ?_)
          refine z_iast F hI gs_133 (by omega) (by omega) (by decide) (show Bd 133 3 = (-2147483648, 2147483647) from rfl) dX12_readTouch_177 (by omega) (by omega) (fun M25 hI sf24 f24 => ?_)
          have tM25_131_7 : M25 131 7 = M21 131 7 := f24 131 7 (fun q => absurd q.1 (by decide))
          have tM25_131_8 : M25 131 8 = M21 131 8 := f24 131 8 (fun q => absurd q.1 (by decide))
          have tM25_131_9 : M25 131 9 = M21 131 9 := f24 131 9 (fun q => absurd q.1 (by decide))
          have tM25_131_10 : M25 131 10 = M21 131 10 := f24 131 10 (fun q => absurd q.1 (by decide))
          have tM25_131_12 : M25 131 12 = M21 131 12 := f24 131 12 (fun q => absurd q.1 (by decide))
          have tM25_131_16 : M25 131 16 = M21 131 16 := f24 131 16 (fun q => absurd q.1 (by decide))
          have tM25_133_6 : M25 133 6 = M21 133 6 := f24 133 6 (fun q => absurd q.2 (by decide))
          have tM25_133_1 : M25 133 1 = M21 133 1 := f24 133 1 (fun q => absurd q.2 (by decide))
          have tM25_133_2 : M25 133 2 = M21 133 2 := f24 133 2 (fun q => absurd q.2 (by decide))
          have tM25_133_4 : M25 133 4 = M21 133 4 := f24 133 4 (fun q => absurd q.2 (by decide))
          have hT := tk_ws f24 (by decide) hT
          have hq9 := wl_wr f24 (by omega)
          have hL := hq9.2 hL
          have cM25 := hq9.1
          clear hq9
          have hF := hF.wr f24 (by decide) (by decide)
          have hW : WFk M25 := hW.site f24 (by decide)
          have sf24 : M25 133 3 = v23 := sf24
          exact hret _ 178 _ ⟨hI, hW⟩ ⟨hF, ⟨hL, by omega, by omega, by omega, by omega, by omega, by omega, by omega, hT, by omega, by omega, by omega⟩⟩ dX12_readTouch_178
        · exact hret _ 135 _ ⟨hI, hW⟩ ⟨hF, ⟨hL, by omega, by omega, by omega, by omega, by omega, by omega, by omega, hT, by omega, by omega, by omega⟩⟩ dX12_readTouch_135
      refine z_aload_n F dX12_readTouch_112 rfl (q := 1) rfl ?_
      refine z_ldcS (j := 59) F dX12_readTouch_113 rfl rfl rfl ?_
      refine z_eq (st' := [.ref (ad 1059), .ref (ad 131)]) rfl rfl rfl ?_
      refine zv_i (rest := []) F (kp_X12_took_131_1059 l M12 ⟨hI, hW⟩ ⟨by omega, by omega, by omega, by omega, hT⟩) cs_X12_130 (T := TX12) (N := 44) (ci := 12) rfl gs_131 (by decide) (by decide) rfl rfl rfl (Nat.le_of_ble_eq_true rfl) dX12_readTouch_115 (fun v26 M27 rv26 hI p28 => ?_)
      obtain ⟨hI, hW⟩ := hI
      obtain ⟨⟨av26, bv26⟩, fp28, xp28⟩ := p28
      have hF := hF.call fp28 (by decide)
      have tM27_133_6 : M27 133 6 = M12 133 6 := fp28.at (by decide)
      have tM27_133_1 : M27 133 1 = M12 133 1 := fp28.at (by decide)
      have tM27_133_2 : M27 133 2 = M12 133 2 := fp28.at (by decide)
      have tM27_133_4 : M27 133 4 = M12 133 4 := fp28.at (by decide)
      have hq9 := wl_fr fp28 (by decide)
      have hL := hq9.2 hL
      have cM27 := hq9.1
      clear hq9
      obtain ⟨qp28_0, qp28_1, qp28_2, qp28_3, qp28_4, qp28_5, qp28_6, qp28_7, qp28_8, qp28_9⟩ := xp28
      have kbM27 : 0 ≤ M27 131 12 ∧ M27 131 12 ≤ 4 := hI.at (show Bd 131 12 = (0, 4) from rfl)
      have hT : Tk M27 := qp28_7
      clear qp28_7
      have lzqp28_9 : M12 131 9 + v26 ≤ M27 131 9 := by omega
      clear qp28_9
      refine z_if_eq (tgt := 125) F dX12_readTouch_118 (by decide +kernel) (by omega) (fun c29 => ?_) (fun c29 => ?_)
      · refine z_iconst F dX12_readTouch_125 ?_
        refine z_istore F dX12_readTouch_126 (by decide) (ls' := [(4, ii 1), (3, ii v11), (0, .ref (ad 131)), (1, ii v6)]) rfl ?_
        refine z_loc [2, 3, 1, 0] (ls' := [(0, .ref (ad 131)), (1, ii v6), (3, ii v11), (4, ii 1)]) rfl ?_
        exact cut128 1 M27 hI hW hF (by omega) (by omega) (by omega) (by omega) hL hT
      · refine z_iconst F dX12_readTouch_121 ?_
        refine z_goto (tgt := 126) F dX12_readTouch_122 (by decide +kernel) ?_
        refine z_istore F dX12_readTouch_126 (by decide) (ls' := [(4, ii 2), (3, ii v11), (0, .ref (ad 131)), (1, ii v6)]) rfl ?_
        refine z_loc [2, 3, 1, 0] (ls' := [(0, .ref (ad 131)), (1, ii v6), (3, ii v11), (4, ii 2)]) rfl ?_
        exact cut128 2 M27 hI hW hF (by omega) (by omega) (by omega) (by omega) hL hT
    refine z_aload_n F dX12_readTouch_25 rfl (q := 1) rfl ?_
    refine gf_X12_108 F hI gs_131 rfl bd_131_12 dX12_readTouch_26 (fun v30 ev30 av30 bv30 => ?_)
    refine z_if_ne (tgt := 87) F dX12_readTouch_29 (by decide +kernel) (by omega) (fun c31 => ?_) (fun c31 => ?_)
    · refine z_iconst F dX12_readTouch_87 ?_
      refine z_istore_n F dX12_readTouch_88 rfl (by decide) (ls' := [(2, ii 0), (1, ii v6), (0, .ref (ad 131))]) rfl ?_
      refine z_iload_n F dX12_readTouch_89 rfl (q := 0) rfl ?_
      refine z_if_eq (tgt := 98) F dX12_readTouch_90 (by decide +kernel) (by omega) (fun c32 => ?_) (fun c32 => by exfalso; omega)
      refine z_loc [2, 1] (ls' := [(0, .ref (ad 131)), (1, ii v6)]) rfl ?_
      exact cut98 M7 hI hW hF (by omega) (by omega) hL hT
    · refine z_aload_n F dX12_readTouch_32 rfl (q := 1) rfl ?_
      refine gf_X12_88 F hI gs_131 rfl bd_131_10 dX12_readTouch_33 (fun v33 ev33 av33 bv33 => ?_)
      refine z_iconst F dX12_readTouch_36 ?_
      refine z_icmp_ne (tgt := 87) F dX12_readTouch_37 (by decide +kernel) (by omega) (by omega) (fun c34 => ?_) (fun c34 => ?_)
      · refine z_iconst F dX12_readTouch_87 ?_
        refine z_istore_n F dX12_readTouch_88 rfl (by decide) (ls' := [(2, ii 0), (1, ii v6), (0, .ref (ad 131))]) rfl ?_
        refine z_iload_n F dX12_readTouch_89 rfl (q := 0) rfl ?_
        refine z_if_eq (tgt := 98) F dX12_readTouch_90 (by decide +kernel) (by omega) (fun c35 => ?_) (fun c35 => by exfalso; omega)
        refine z_loc [2, 1] (ls' := [(0, .ref (ad 131)), (1, ii v6)]) rfl ?_
        exact cut98 M7 hI hW hF (by omega) (by omega) hL hT
      · refine z_aload_n F dX12_readTouch_40 rfl (q := 1) rfl ?_
        refine gf_X12_102 F hI gs_131 rfl bd_131_11 dX12_readTouch_41 (fun v36 ev36 av36 bv36 => ?_)
        refine z_iload_n F dX12_readTouch_44 rfl (q := 0) rfl ?_
        refine z_icmp_eq (tgt := 83) F dX12_readTouch_45 (by decide +kernel) (by omega) (by omega) (fun c37 => ?_) (fun c37 => ?_)
        · refine z_iconst F dX12_readTouch_83 ?_
          refine z_goto (tgt := 88) F dX12_readTouch_84 (by decide +kernel) ?_
          refine z_istore_n F dX12_readTouch_88 rfl (by decide) (ls' := [(2, ii 1), (1, ii v6), (0, .ref (ad 131))]) rfl ?_
          refine z_iload_n F dX12_readTouch_89 rfl (q := 0) rfl ?_
          refine z_if_eq (tgt := 98) F dX12_readTouch_90 (by decide +kernel) (by omega) (fun c38 => by exfalso; omega) (fun c38 => ?_)
          refine z_aload_n F dX12_readTouch_93 rfl (q := 2) rfl ?_
          refine z_iconst F dX12_readTouch_94 ?_
          refine zv_v (rest := []) F (kp_X12_blames l M7 ⟨hI, hW⟩ 3 (by omega) (by omega)) cs_X12_133 (T := TX12) (N := 44) (ci := 12) rfl gs_131 (by decide) (by decide) rfl rfl rfl (Nat.le_of_ble_eq_true rfl) dX12_readTouch_95 (fun M39 hI p40 => ?_)
          obtain ⟨hI, hW⟩ := hI
          obtain ⟨fp40, xp40⟩ := p40
          have hF := hF.call fp40 (by decide)
          have tM39_133_6 : M39 133 6 = M7 133 6 := fp40.at (by decide)
          have tM39_133_1 : M39 133 1 = M7 133 1 := fp40.at (by decide)
          have tM39_133_2 : M39 133 2 = M7 133 2 := fp40.at (by decide)
          have tM39_133_4 : M39 133 4 = M7 133 4 := fp40.at (by decide)
          have hq9 := wl_fr fp40 (by decide)
          have hL := hq9.2 hL
          have cM39 := hq9.1
          clear hq9
          obtain ⟨qp40_0, qp40_1, qp40_2, qp40_3, qp40_4, qp40_5⟩ := xp40
          have kbM39 : 0 ≤ M39 131 12 ∧ M39 131 12 ≤ 4 := hI.at (show Bd 131 12 = (0, 4) from rfl)
          have hT := tk_eq hT qp40_2 qp40_3 qp40_4
          refine z_loc [2, 1] (ls' := [(0, .ref (ad 131)), (1, ii v6)]) rfl ?_
          exact cut98 M39 hI hW hF (by omega) (by omega) hL hT
        · refine z_aload_n F dX12_readTouch_48 rfl (q := 1) rfl ?_
          refine gf_X12_102 F hI gs_131 rfl bd_131_11 dX12_readTouch_49 (fun v41 ev41 av41 bv41 => ?_)
          have zv41 : v36 = v41 := ev36.trans ev41.symm
          subst zv41
          refine z_i2l F dX12_readTouch_52 (by omega) ?_
          refine z_lconst (x := 0) F dX12_readTouch_53 (by decide +kernel) ?_
          refine z_ldc2 (x := 9) F dX12_readTouch_54 (gin lm_147 rfl) (by decide +kernel) ?_
          refine zs_i (rest := []) F (k_X12_within l M7 ⟨hI, hW⟩ v36 (by omega) (by omega) 0 (by omega) (by omega) 9 (by omega) (by omega)) cs_X12_137 (by decide) (by decide) rfl rfl rfl (Nat.le_of_ble_eq_true rfl) dX12_readTouch_57 (fun v42 M43 rv42 hI p44 => ?_)
          obtain ⟨hI, hW⟩ := hI
          obtain ⟨⟨av42, bv42⟩, rfl, xp44⟩ := p44
          refine z_if_eq (tgt := 87) F dX12_readTouch_60 (by decide +kernel) (by omega) (fun c45 => ?_) (fun c45 => ?_)
          · refine z_iconst F dX12_readTouch_87 ?_
            refine z_istore_n F dX12_readTouch_88 rfl (by decide) (ls' := [(2, ii 0), (1, ii v6), (0, .ref (ad 131))]) rfl ?_
            refine z_iload_n F dX12_readTouch_89 rfl (q := 0) rfl ?_
            refine z_if_eq (tgt := 98) F dX12_readTouch_90 (by decide +kernel) (by omega) (fun c46 => ?_) (fun c46 => by exfalso; omega)
            refine z_loc [2, 1] (ls' := [(0, .ref (ad 131)), (1, ii v6)]) rfl ?_
            exact cut98 M7 hI hW hF (by omega) (by omega) hL hT
          · refine z_aload_n F dX12_readTouch_63 rfl (q := 1) rfl ?_
            refine rf_X12_13 F gs_131 rfl dX12_readTouch_64 ?_
            refine z_bipush F dX12_readTouch_67 (by decide +kernel) ?_
            refine z_bipush F dX12_readTouch_69 (by decide +kernel) ?_
            refine z_iload_n F dX12_readTouch_71 rfl (q := 0) rfl ?_
            refine z_imul F dX12_readTouch_72 ?_
            refine z_iadd F dX12_readTouch_73 ?_
            refine z_aload_n F dX12_readTouch_74 rfl (q := 1) rfl ?_
            refine gf_X12_102 F hI gs_131 rfl bd_131_11 dX12_readTouch_75 (fun v47 ev47 av47 bv47 => ?_)
            have zv47 : v36 = v47 := ev36.trans ev47.symm
            subst zv47
            refine z_iadd F dX12_readTouch_78 ?_
            refine z_iald F hI gs_133 (by omega) (by omega) (by decide) (bd_133.trans (kn_touch (by omega) (by omega))) dX12_readTouch_79 (fun v48 (ev48 : v48 = M7 133 _) av48 bv48 => ?_)
            refine z_if_eq (tgt := 87) F dX12_readTouch_80 (by decide +kernel) (by omega) (fun c49 => ?_) (fun c49 => ?_)
            · refine z_iconst F dX12_readTouch_87 ?_
              refine z_istore_n F dX12_readTouch_88 rfl (by decide) (ls' := [(2, ii 0), (1, ii v6), (0, .ref (ad 131))]) rfl ?_
              refine z_iload_n F dX12_readTouch_89 rfl (q := 0) rfl ?_
              refine z_if_eq (tgt := 98) F dX12_readTouch_90 (by decide +kernel) (by omega) (fun c50 => ?_) (fun c50 => by exfalso; omega)
              refine z_loc [2, 1] (ls' := [(0, .ref (ad 131)), (1, ii v6)]) rfl ?_
              exact cut98 M7 hI hW hF (by omega) (by omega) hL hT
            · refine z_iconst F dX12_readTouch_83 ?_
              refine z_goto (tgt := 88) F dX12_readTouch_84 (by decide +kernel) ?_
              refine z_istore_n F dX12_readTouch_88 rfl (by decide) (ls' := [(2, ii 1), (1, ii v6), (0, .ref (ad 131))]) rfl ?_
              refine z_iload_n F dX12_readTouch_89 rfl (q := 0) rfl ?_
              refine z_if_eq (tgt := 98) F dX12_readTouch_90 (by decide +kernel) (by omega) (fun c51 => by exfalso; omega) (fun c51 => ?_)
              refine z_aload_n F dX12_readTouch_93 rfl (q := 2) rfl ?_
              refine z_iconst F dX12_readTouch_94 ?_
              refine zv_v (rest := []) F (kp_X12_blames l M7 ⟨hI, hW⟩ 3 (by omega) (by omega)) cs_X12_133 (T := TX12) (N := 44) (ci := 12) rfl gs_131 (by decide) (by decide) rfl rfl rfl (Nat.le_of_ble_eq_true rfl) dX12_readTouch_95 (fun M52 hI p53 => ?_)
              obtain ⟨hI, hW⟩ := hI
              obtain ⟨fp53, xp53⟩ := p53
              have hF := hF.call fp53 (by decide)
              have tM52_133_6 : M52 133 6 = M7 133 6 := fp53.at (by decide)
              have tM52_133_1 : M52 133 1 = M7 133 1 := fp53.at (by decide)
              have tM52_133_2 : M52 133 2 = M7 133 2 := fp53.at (by decide)
              have tM52_133_4 : M52 133 4 = M7 133 4 := fp53.at (by decide)
              have hq9 := wl_fr fp53 (by decide)
              have hL := hq9.2 hL
              have cM52 := hq9.1
              clear hq9
              obtain ⟨qp53_0, qp53_1, qp53_2, qp53_3, qp53_4, qp53_5⟩ := xp53
              have kbM52 : 0 ≤ M52 131 12 ∧ M52 131 12 ≤ 4 := hI.at (show Bd 131 12 = (0, 4) from rfl)
              have hT := tk_eq hT qp53_2 qp53_3 qp53_4
              refine z_loc [2, 1] (ls' := [(0, .ref (ad 131)), (1, ii v6)]) rfl ?_
              exact cut98 M52 hI hW hF (by omega) (by omega) hL hT
  · exact hret _ 10 _ ⟨hI, hW⟩ ⟨hF, ⟨hL, by omega, by omega, by omega, by omega, by omega, by omega, by omega, hT, by omega, by omega, by omega⟩⟩ dX12_readTouch_10
set_option maxHeartbeats 4000000 in
set_option maxRecDepth 4000 in
theorem kp_X12_isWord_131_1061 (l : Launch) (M : Mem) (hJ : Iw M) (hp0 : 0 ≤ M 131 9 ∧ M 131 9 ≤ M 131 8 ∧ M 131 8 ≤ M 131 7 ∧ M 131 7 ≤ 900 ∧ (M 131 10 = 0 ∨ M 131 9 < M 131 8)) : CI l yX12_isWord cX12_isWord 4 (some .boolean) 5 (fun ad => [.ref (ad 131), .ref (ad 1061)]) M (fun z M' => (0 ≤ z ∧ z ≤ 1) ∧ M = M' ∧ (z = 1 → M 131 12 = 0 ∧ M 131 10 = 1)) := by
  obtain ⟨hI, hW⟩ := hJ
  refine en_z (by decide +kernel) (fun ad => by exact Nat.le_of_ble_eq_true rfl) (fun D cy ad A p e s m args below meth c Q F hret => ?_)
  refine z_eq (ls' := [(0, .ref (ad 131)), (1, .ref (ad 1061))]) rfl rfl rfl ?_
  obtain ⟨u1, eu1⟩ : ∃ v : Int, v = M 131 7 := ⟨_, rfl⟩
  have ku1 : 0 ≤ u1 ∧ u1 ≤ 900 := by have := hI.at (show Bd 131 7 = (0, 900) from rfl); omega
  obtain ⟨u2, eu2⟩ : ∃ v : Int, v = M 131 8 := ⟨_, rfl⟩
  have ku2 : 0 ≤ u2 ∧ u2 ≤ 900 := by have := hI.at (show Bd 131 8 = (0, 900) from rfl); omega
  obtain ⟨u3, eu3⟩ : ∃ v : Int, v = M 131 9 := ⟨_, rfl⟩
  have ku3 : 0 ≤ u3 ∧ u3 ≤ 900 := by have := hI.at (show Bd 131 9 = (0, 900) from rfl); omega
  obtain ⟨u4, eu4⟩ : ∃ v : Int, v = M 131 10 := ⟨_, rfl⟩
  have ku4 : (-2147483648) ≤ u4 ∧ u4 ≤ 2147483647 := by have := hI.at (show Bd 131 10 = (-2147483648, 2147483647) from rfl); omega
  obtain ⟨u5, eu5⟩ : ∃ v : Int, v = M 131 12 := ⟨_, rfl⟩
  have ku5 : 0 ≤ u5 ∧ u5 ≤ 4 := by have := hI.at (show Bd 131 12 = (0, 4) from rfl); omega
  obtain ⟨u6, eu6⟩ : ∃ v : Int, v = M 131 16 := ⟨_, rfl⟩
  have ku6 : (-2147483648) ≤ u6 ∧ u6 ≤ 2147483647 := by have := hI.at (show Bd 131 16 = (-2147483648, 2147483647) from rfl); omega
  refine z_aload_n F dX12_isWord_0 rfl (q := 0) rfl ?_
  refine gf_X12_108 F hI gs_131 rfl bd_131_12 dX12_isWord_1 (fun v7 ev7 av7 bv7 => ?_)
  have zv7 : u5 = v7 := eu5.trans ev7.symm
  subst zv7
  refine z_if_ne (tgt := 35) F dX12_isWord_4 (by decide +kernel) (by omega) (fun c8 => ?_) (fun c8 => ?_)
  · refine z_iconst F dX12_isWord_35 ?_
    refine z_istore_n F dX12_isWord_36 rfl (by decide) (ls' := [(2, ii 0), (0, .ref (ad 131)), (1, .ref (ad 1061))]) rfl ?_
    refine z_iconst F dX12_isWord_37 ?_
    refine z_istore_n F dX12_isWord_38 rfl (by decide) (ls' := [(3, ii 0), (2, ii 0), (0, .ref (ad 131)), (1, .ref (ad 1061))]) rfl ?_
    refine z_loc [2, 3, 1, 0] (ls' := [(0, .ref (ad 131)), (1, .ref (ad 1061)), (2, ii 0), (3, ii 0)]) rfl ?_
    suffices key39 : ∀ (n : Nat) (y10 : Int) (y11 : Int), 0 ≤ y10 → y10 ≤ 0 → 0 ≤ y11 → y11 ≤ 0 → (y10 = 1 → M 131 12 = 0 ∧ M 131 10 = 1 ∧ M 131 8 - M 131 9 = 5) → 0 < (n : Int) → Z D cy ad p l e (RMh 5) s m args below meth c A 4 0 0 Q 39 [(0, .ref (ad 131)), (1, .ref (ad 1061)), (2, ii y10), (3, ii y11)] [] M from key39 1 0 0 (by omega) (by omega) (by omega) (by omega) (by omega) (by omega)
    intro n39
    induction n39 with
    | zero => intro y10 y11 ay10 by10 ay11 by11 i39_0 hn39; exfalso; omega
    | succ n39 ih39 =>
      intro y10 y11 ay10 by10 ay11 by11 i39_0 hn39
      refine z_iload_n F dX12_isWord_39 rfl (q := 2) rfl ?_
      refine z_if_eq (tgt := 82) F dX12_isWord_40 (by decide +kernel) (by omega) (fun c12 => ?_) (fun c12 => by exfalso; omega)
      refine z_iload_n F dX12_isWord_82 rfl (q := 2) rfl ?_
      exact hret _ _ 83 _ ⟨by omega, by omega⟩ ⟨hI, hW⟩ ⟨⟨by omega, by omega⟩, rfl, (by omega)⟩ dX12_isWord_83
  · refine z_aload_n F dX12_isWord_7 rfl (q := 0) rfl ?_
    refine gf_X12_88 F hI gs_131 rfl bd_131_10 dX12_isWord_8 (fun v13 ev13 av13 bv13 => ?_)
    have zv13 : u4 = v13 := eu4.trans ev13.symm
    subst zv13
    refine z_iconst F dX12_isWord_11 ?_
    refine z_icmp_ne (tgt := 35) F dX12_isWord_12 (by decide +kernel) (by omega) (by omega) (fun c14 => ?_) (fun c14 => ?_)
    · refine z_iconst F dX12_isWord_35 ?_
      refine z_istore_n F dX12_isWord_36 rfl (by decide) (ls' := [(2, ii 0), (0, .ref (ad 131)), (1, .ref (ad 1061))]) rfl ?_
      refine z_iconst F dX12_isWord_37 ?_
      refine z_istore_n F dX12_isWord_38 rfl (by decide) (ls' := [(3, ii 0), (2, ii 0), (0, .ref (ad 131)), (1, .ref (ad 1061))]) rfl ?_
      refine z_loc [2, 3, 1, 0] (ls' := [(0, .ref (ad 131)), (1, .ref (ad 1061)), (2, ii 0), (3, ii 0)]) rfl ?_
      suffices key39 : ∀ (n : Nat) (y16 : Int) (y17 : Int), 0 ≤ y16 → y16 ≤ 0 → 0 ≤ y17 → y17 ≤ 0 → (y16 = 1 → M 131 12 = 0 ∧ M 131 10 = 1 ∧ M 131 8 - M 131 9 = 5) → 0 < (n : Int) → Z D cy ad p l e (RMh 5) s m args below meth c A 4 0 0 Q 39 [(0, .ref (ad 131)), (1, .ref (ad 1061)), (2, ii y16), (3, ii y17)] [] M from key39 1 0 0 (by omega) (by omega) (by omega) (by omega) (by omega) (by omega)
      intro n39
      induction n39 with
      | zero => intro y16 y17 ay16 by16 ay17 by17 i39_0 hn39; exfalso; omega
      | succ n39 ih39 =>
        intro y16 y17 ay16 by16 ay17 by17 i39_0 hn39
        refine z_iload_n F dX12_isWord_39 rfl (q := 2) rfl ?_
        refine z_if_eq (tgt := 82) F dX12_isWord_40 (by decide +kernel) (by omega) (fun c18 => ?_) (fun c18 => by exfalso; omega)
        refine z_iload_n F dX12_isWord_82 rfl (q := 2) rfl ?_
        exact hret _ _ 83 _ ⟨by omega, by omega⟩ ⟨hI, hW⟩ ⟨⟨by omega, by omega⟩, rfl, (by omega)⟩ dX12_isWord_83
    · refine z_aload_n F dX12_isWord_15 rfl (q := 0) rfl ?_
      refine gf_X12_82 F hI gs_131 rfl bd_131_8 dX12_isWord_16 (fun v19 ev19 av19 bv19 => ?_)
      have zv19 : u2 = v19 := eu2.trans ev19.symm
      subst zv19
      refine z_aload_n F dX12_isWord_19 rfl (q := 0) rfl ?_
      refine gf_X12_85 F hI gs_131 rfl bd_131_9 dX12_isWord_20 (fun v20 ev20 av20 bv20 => ?_)
      have zv20 : u3 = v20 := eu3.trans ev20.symm
      subst zv20
      refine z_isub F dX12_isWord_23 ?_
      refine z_aload_n F dX12_isWord_24 rfl (q := 1) rfl ?_
      refine zvs_i (i := 61) (rest := [ii (u2 - u3)]) F (kS_len l M ⟨hI, hW⟩ 61 (by decide)) cs_X12_114 (by decide) (by decide) (by decide) rfl rfl rfl (Nat.le_of_ble_eq_true rfl) dX12_isWord_25 (fun v21 M9 rv21 hI9 pv21 => ?_)
      obtain ⟨ev21, rfl⟩ := pv21
      obtain rfl : v21 = 5 := ev21.trans (show ((sbyt.getD 61 []).length : Int) = 5 from by decide)
      clear hI9
      refine z_icmp_ne (tgt := 35) F dX12_isWord_28 (by decide +kernel) (by omega) (by omega) (fun c22 => ?_) (fun c22 => ?_)
      · refine z_iconst F dX12_isWord_35 ?_
        refine z_istore_n F dX12_isWord_36 rfl (by decide) (ls' := [(2, ii 0), (0, .ref (ad 131)), (1, .ref (ad 1061))]) rfl ?_
        refine z_iconst F dX12_isWord_37 ?_
        refine z_istore_n F dX12_isWord_38 rfl (by decide) (ls' := [(3, ii 0), (2, ii 0), (0, .ref (ad 131)), (1, .ref (ad 1061))]) rfl ?_
        refine z_loc [2, 3, 1, 0] (ls' := [(0, .ref (ad 131)), (1, .ref (ad 1061)), (2, ii 0), (3, ii 0)]) rfl ?_
        suffices key39 : ∀ (n : Nat) (y24 : Int) (y25 : Int), 0 ≤ y24 → y24 ≤ 0 → 0 ≤ y25 → y25 ≤ 0 → (y24 = 1 → M 131 12 = 0 ∧ M 131 10 = 1 ∧ M 131 8 - M 131 9 = 5) → 0 < (n : Int) → Z D cy ad p l e (RMh 5) s m args below meth c A 4 0 0 Q 39 [(0, .ref (ad 131)), (1, .ref (ad 1061)), (2, ii y24), (3, ii y25)] [] M from key39 1 0 0 (by omega) (by omega) (by omega) (by omega) (by omega) (by omega)
        intro n39
        induction n39 with
        | zero => intro y24 y25 ay24 by24 ay25 by25 i39_0 hn39; exfalso; omega
        | succ n39 ih39 =>
          intro y24 y25 ay24 by24 ay25 by25 i39_0 hn39
          refine z_iload_n F dX12_isWord_39 rfl (q := 2) rfl ?_
          refine z_if_eq (tgt := 82) F dX12_isWord_40 (by decide +kernel) (by omega) (fun c26 => ?_) (fun c26 => by exfalso; omega)
          refine z_iload_n F dX12_isWord_82 rfl (q := 2) rfl ?_
          exact hret _ _ 83 _ ⟨by omega, by omega⟩ ⟨hI, hW⟩ ⟨⟨by omega, by omega⟩, rfl, (by omega)⟩ dX12_isWord_83
      · refine z_iconst F dX12_isWord_31 ?_
        refine z_goto (tgt := 36) F dX12_isWord_32 (by decide +kernel) ?_
        refine z_istore_n F dX12_isWord_36 rfl (by decide) (ls' := [(2, ii 1), (0, .ref (ad 131)), (1, .ref (ad 1061))]) rfl ?_
        refine z_iconst F dX12_isWord_37 ?_
        refine z_istore_n F dX12_isWord_38 rfl (by decide) (ls' := [(3, ii 0), (2, ii 1), (0, .ref (ad 131)), (1, .ref (ad 1061))]) rfl ?_
        refine z_loc [2, 3, 1, 0] (ls' := [(0, .ref (ad 131)), (1, .ref (ad 1061)), (2, ii 1), (3, ii 0)]) rfl ?_
        suffices key39 : ∀ (n : Nat) (y28 : Int) (y29 : Int), 0 ≤ y28 → y28 ≤ 1 → 0 ≤ y29 → y29 ≤ 5 → (y28 = 1 → M 131 12 = 0 ∧ M 131 10 = 1 ∧ M 131 8 - M 131 9 = 5) → 5 - y29 < (n : Int) → Z D cy ad p l e (RMh 5) s m args below meth c A 4 0 0 Q 39 [(0, .ref (ad 131)), (1, .ref (ad 1061)), (2, ii y28), (3, ii y29)] [] M from key39 6 1 0 (by omega) (by omega) (by omega) (by omega) (by omega) (by omega)
        intro n39
        induction n39 with
        | zero => intro y28 y29 ay28 by28 ay29 by29 i39_0 hn39; exfalso; omega
        | succ n39 ih39 =>
          intro y28 y29 ay28 by28 ay29 by29 i39_0 hn39
          refine z_iload_n F dX12_isWord_39 rfl (q := 2) rfl ?_
          refine z_if_eq (tgt := 82) F dX12_isWord_40 (by decide +kernel) (by omega) (fun c30 => ?_) (fun c30 => ?_)
          · refine z_iload_n F dX12_isWord_82 rfl (q := 2) rfl ?_
            exact hret _ _ 83 _ ⟨by omega, by omega⟩ ⟨hI, hW⟩ ⟨⟨by omega, by omega⟩, rfl, (by omega)⟩ dX12_isWord_83
          · refine z_iload_n F dX12_isWord_43 rfl (q := 3) rfl ?_
            refine z_aload_n F dX12_isWord_44 rfl (q := 1) rfl ?_
            refine zvs_i (i := 61) (rest := [ii y29]) F (kS_len l M ⟨hI, hW⟩ 61 (by decide)) cs_X12_114 (by decide) (by decide) (by decide) rfl rfl rfl (Nat.le_of_ble_eq_true rfl) dX12_isWord_45 (fun v31 M9 rv31 hI9 pv31 => ?_)
            obtain ⟨ev31, rfl⟩ := pv31
            obtain rfl : v31 = 5 := ev31.trans (show ((sbyt.getD 61 []).length : Int) = 5 from by decide)
            clear hI9
            refine z_icmp_ge (tgt := 82) F dX12_isWord_48 (by decide +kernel) (by omega) (by omega) (fun c32 => ?_) (fun c32 => ?_)
            · refine z_iload_n F dX12_isWord_82 rfl (q := 2) rfl ?_
              exact hret _ _ 83 _ ⟨by omega, by omega⟩ ⟨hI, hW⟩ ⟨⟨by omega, by omega⟩, rfl, (by omega)⟩ dX12_isWord_83
            · refine z_aload_n F dX12_isWord_51 rfl (q := 0) rfl ?_
              refine rf_X12_23 F gs_131 rfl dX12_isWord_52 ?_
              refine z_aload_n F dX12_isWord_55 rfl (q := 0) rfl ?_
              refine gf_X12_85 F hI gs_131 rfl bd_131_9 dX12_isWord_56 (fun v33 ev33 av33 bv33 => ?_)
              have zv33 : u3 = v33 := eu3.trans ev33.symm
              subst zv33
              refine z_iload_n F dX12_isWord_59 rfl (q := 3) rfl ?_
              refine z_iadd F dX12_isWord_60 ?_
              have k34 : 0 ≤ (u3 + y29) ∧ (u3 + y29) ≤ 899 := by omega
              refine z_iald F hI gs_136 (by omega) (by omega) (by decide) bd_136 dX12_isWord_61 (fun v35 (ev35 : v35 = M 136 _) av35 bv35 => ?_)
              refine z_aload_n F dX12_isWord_62 rfl (q := 1) rfl ?_
              refine z_iload_n F dX12_isWord_63 rfl (q := 3) rfl ?_
              refine zvs_i (i := 61) (rest := [ii v35]) F (kS_chr l M ⟨hI, hW⟩ 61 (by decide) y29 (by omega) (show y29 < ((sbyt.getD 61 []).length : Int) from by rw [show ((sbyt.getD 61 []).length : Int) = 5 from by decide]; omega)) cs_X12_119 (by decide) (by decide) (by decide) rfl rfl rfl (Nat.le_of_ble_eq_true rfl) dX12_isWord_64 (fun v36 M9 rv36 hI9 pv36 => ?_)
              obtain ⟨⟨av36, bv36⟩, rfl⟩ := pv36
              clear hI9
              refine z_icmp_ne (tgt := 74) F dX12_isWord_67 (by decide +kernel) (by omega) (by omega) (fun c37 => ?_) (fun c37 => ?_)
              · refine z_iconst F dX12_isWord_74 ?_
                refine z_istore_n F dX12_isWord_75 rfl (by decide) (ls' := [(2, ii 0), (0, .ref (ad 131)), (1, .ref (ad 1061)), (3, ii y29)]) rfl ?_
                refine z_iincN F dX12_isWord_76 (q := 3) rfl (by decide) (fun v38 ev38 => ?_)
                refine z_eq (ls' := [(3, ii v38), (2, ii 0), (0, .ref (ad 131)), (1, .ref (ad 1061))]) rfl rfl rfl ?_
                refine z_goto (tgt := 39) F dX12_isWord_79 (by decide +kernel) ?_
                refine z_loc [2, 3, 1, 0] (ls' := [(0, .ref (ad 131)), (1, .ref (ad 1061)), (2, ii 0), (3, ii v38)]) rfl ?_
                exact ih39 0 v38 (by omega) (by omega) (by omega) (by omega) (by omega) (by omega)
              · refine z_iconst F dX12_isWord_70 ?_
                refine z_goto (tgt := 75) F dX12_isWord_71 (by decide +kernel) ?_
                refine z_istore_n F dX12_isWord_75 rfl (by decide) (ls' := [(2, ii 1), (0, .ref (ad 131)), (1, .ref (ad 1061)), (3, ii y29)]) rfl ?_
                refine z_iincN F dX12_isWord_76 (q := 3) rfl (by decide) (fun v39 ev39 => ?_)
                refine z_eq (ls' := [(3, ii v39), (2, ii 1), (0, .ref (ad 131)), (1, .ref (ad 1061))]) rfl rfl rfl ?_
                refine z_goto (tgt := 39) F dX12_isWord_79 (by decide +kernel) ?_
                refine z_loc [2, 3, 1, 0] (ls' := [(0, .ref (ad 131)), (1, .ref (ad 1061)), (2, ii 1), (3, ii v39)]) rfl ?_
                exact ih39 1 v39 (by omega) (by omega) (by omega) (by omega) (by omega) (by omega)
set_option maxHeartbeats 4000000 in
set_option maxRecDepth 4000 in
theorem kp_X12_took_131_1061 (l : Launch) (M : Mem) (hJ : Iw M) (hp0 : 0 ≤ M 131 9 ∧ M 131 9 ≤ M 131 8 ∧ M 131 8 ≤ M 131 7 ∧ M 131 7 ≤ 900 ∧ (M 131 10 = 0 ∨ M 131 9 < M 131 8)) : CI l yX12_took cX12_took 3 (some .boolean) 6 (fun ad => [.ref (ad 131), .ref (ad 1061)]) M (fun z M' => (0 ≤ z ∧ z ≤ 1) ∧ Fr [131] M M' ∧ (M' 131 7 = M 131 7 ∧ M' 131 16 = M 131 16 ∧ M 131 9 ≤ M' 131 9 ∧ 0 ≤ M' 131 9 ∧ M' 131 9 ≤ M' 131 8 ∧ M' 131 8 ≤ M' 131 7 ∧ M' 131 7 ≤ 900 ∧ (M' 131 10 = 0 ∨ M' 131 9 < M' 131 8) ∧ M' 131 12 = M 131 12 ∧ (z = 1 → M 131 12 = 0 ∧ M 131 9 < M' 131 9))) := by
  obtain ⟨hI, hW⟩ := hJ
  have hF : Fr [131] M M := Fr.rf
  refine en_z (by decide +kernel) (fun ad => by exact Nat.le_of_ble_eq_true rfl) (fun D cy ad A p e s m args below meth c Q F hret => ?_)
  refine z_eq (ls' := [(0, .ref (ad 131)), (1, .ref (ad 1061))]) rfl rfl rfl ?_
  refine z_aload_n F dX12_took_0 rfl (q := 0) rfl ?_
  refine z_aload_n F dX12_took_1 rfl (q := 1) rfl ?_
  refine zv_i (rest := []) F (kp_X12_isWord_131_1061 l M ⟨hI, hW⟩ (by omega)) cs_X12_123 (T := TX12) (N := 44) (ci := 12) rfl gs_131 (by decide) (by decide) rfl rfl rfl (Nat.le_of_ble_eq_true rfl) dX12_took_2 (fun v1 M2 rv1 hI p3 => ?_)
  obtain ⟨hI, hW⟩ := hI
  obtain ⟨⟨av1, bv1⟩, rfl, xp3⟩ := p3
  refine z_istore_n F dX12_took_5 rfl (by decide) (ls' := [(2, ii v1), (0, .ref (ad 131)), (1, .ref (ad 1061))]) rfl ?_
  refine z_iload_n F dX12_took_6 rfl (q := 0) rfl ?_
  refine z_if_eq (tgt := 14) F dX12_took_7 (by decide +kernel) (by omega) (fun c4 => ?_) (fun c4 => ?_)
  · refine z_iload_n F dX12_took_14 rfl (q := 0) rfl ?_
    exact hret _ _ 15 _ ⟨by omega, by omega⟩ ⟨hI, hW⟩ ⟨⟨by omega, by omega⟩, hF, (by omega)⟩ dX12_took_15
  · refine z_aload_n F dX12_took_10 rfl (q := 1) rfl ?_
    refine zv_v (rest := []) F (kp_X12_readsOn l M ⟨hI, hW⟩ (by omega)) cs_X12_127 (T := TX12) (N := 44) (ci := 12) rfl gs_131 (by decide) (by decide) rfl rfl rfl (Nat.le_of_ble_eq_true rfl) dX12_took_11 (fun M5 hI p6 => ?_)
    obtain ⟨hI, hW⟩ := hI
    obtain ⟨fp6, xp6⟩ := p6
    have hF := hF.call fp6 (by decide)
    have tM5_133_6 : M5 133 6 = M 133 6 := fp6.at (by decide)
    have tM5_133_1 : M5 133 1 = M 133 1 := fp6.at (by decide)
    refine z_iload_n F dX12_took_14 rfl (q := 0) rfl ?_
    exact hret _ _ 15 _ ⟨by omega, by omega⟩ ⟨hI, hW⟩ ⟨⟨by omega, by omega⟩, hF, (by omega)⟩ dX12_took_15
set_option maxHeartbeats 4000000 in
set_option maxRecDepth 4000 in
theorem kp_X12_mustWord_131_1061 (l : Launch) (M : Mem) (hJ : Iw M) (hp0 : 0 ≤ M 131 9 ∧ M 131 9 ≤ M 131 8 ∧ M 131 8 ≤ M 131 7 ∧ M 131 7 ≤ 900 ∧ (M 131 10 = 0 ∨ M 131 9 < M 131 8)) : CV l yX12_mustWord cX12_mustWord 2 none 7 (fun ad => [.ref (ad 131), .ref (ad 1061)]) M (fun M' => Fr [131] M M' ∧ (M' 131 7 = M 131 7 ∧ M' 131 16 = M 131 16 ∧ M 131 9 ≤ M' 131 9 ∧ 0 ≤ M' 131 9 ∧ M' 131 9 ≤ M' 131 8 ∧ M' 131 8 ≤ M' 131 7 ∧ M' 131 7 ≤ 900 ∧ (M' 131 10 = 0 ∨ M' 131 9 < M' 131 8) ∧ (M' 131 12 = 0 → M 131 12 = 0))) := by
  obtain ⟨hI, hW⟩ := hJ
  have hF : Fr [131] M M := Fr.rf
  refine en_v (by decide +kernel) (fun ad => by exact Nat.le_of_ble_eq_true rfl) (fun D cy ad A p e s m args below meth c Q F hret => ?_)
  refine z_eq (ls' := [(0, .ref (ad 131)), (1, .ref (ad 1061))]) rfl rfl rfl ?_
  refine z_aload_n F dX12_mustWord_0 rfl (q := 0) rfl ?_
  refine z_aload_n F dX12_mustWord_1 rfl (q := 1) rfl ?_
  refine zv_i (rest := []) F (kp_X12_took_131_1061 l M ⟨hI, hW⟩ (by omega)) cs_X12_130 (T := TX12) (N := 44) (ci := 12) rfl gs_131 (by decide) (by decide) rfl rfl rfl (Nat.le_of_ble_eq_true rfl) dX12_mustWord_2 (fun v1 M2 rv1 hI p3 => ?_)
  obtain ⟨hI, hW⟩ := hI
  obtain ⟨⟨av1, bv1⟩, fp3, xp3⟩ := p3
  have hF := hF.call fp3 (by decide)
  have tM2_133_6 : M2 133 6 = M 133 6 := fp3.at (by decide)
  have tM2_133_1 : M2 133 1 = M 133 1 := fp3.at (by decide)
  refine z_if_ne (tgt := 13) F dX12_mustWord_5 (by decide +kernel) (by omega) (fun c4 => ?_) (fun c4 => ?_)
  · exact hret _ 13 _ ⟨hI, hW⟩ ⟨hF, (by omega)⟩ dX12_mustWord_13
  · refine z_aload_n F dX12_mustWord_8 rfl (q := 0) rfl ?_
    refine z_iconst F dX12_mustWord_9 ?_
    refine zv_v (rest := []) F (kp_X12_blames l M2 ⟨hI, hW⟩ 2 (by omega) (by omega)) cs_X12_133 (T := TX12) (N := 44) (ci := 12) rfl gs_131 (by decide) (by decide) rfl rfl rfl (Nat.le_of_ble_eq_true rfl) dX12_mustWord_10 (fun M5 hI p6 => ?_)
    obtain ⟨hI, hW⟩ := hI
    obtain ⟨fp6, xp6⟩ := p6
    have hF := hF.call fp6 (by decide)
    have tM5_133_6 : M5 133 6 = M2 133 6 := fp6.at (by decide)
    have tM5_133_1 : M5 133 1 = M2 133 1 := fp6.at (by decide)
    exact hret _ 13 _ ⟨hI, hW⟩ ⟨hF, (by omega)⟩ dX12_mustWord_13
