theorem dX12_readThing_0 : decode cX12_readThing 0 = .ok (.aload_n 0, 1) := by decide +kernel
theorem dX12_readThing_1 : decode cX12_readThing 1 = .ok (.iconst 2, 1) := by decide +kernel
theorem dX12_readThing_10 : decode cX12_readThing 10 = .ok (.return_, 1) := by decide +kernel
theorem dX12_readThing_101 : decode cX12_readThing 101 = .ok (.invokevirtual 199, 3) := by decide +kernel
theorem dX12_readThing_104 : decode cX12_readThing 104 = .ok (.goto 4, 3) := by decide +kernel
theorem dX12_readThing_107 : decode cX12_readThing 107 = .ok (.iconst 1, 1) := by decide +kernel
theorem dX12_readThing_108 : decode cX12_readThing 108 = .ok (.istore 4, 2) := by decide +kernel
theorem dX12_readThing_11 : decode cX12_readThing 11 = .ok (.aload_n 0, 1) := by decide +kernel
theorem dX12_readThing_110 : decode cX12_readThing 110 = .ok (.aload_n 0, 1) := by decide +kernel
theorem dX12_readThing_111 : decode cX12_readThing 111 = .ok (.ldc 223, 2) := by decide +kernel
theorem dX12_readThing_113 : decode cX12_readThing 113 = .ok (.invokevirtual 130, 3) := by decide +kernel
theorem dX12_readThing_116 : decode cX12_readThing 116 = .ok (.istore 5, 2) := by decide +kernel
theorem dX12_readThing_118 : decode cX12_readThing 118 = .ok (.aload_n 0, 1) := by decide +kernel
theorem dX12_readThing_119 : decode cX12_readThing 119 = .ok (.getfield 108, 3) := by decide +kernel
theorem dX12_readThing_12 : decode cX12_readThing 12 = .ok (.getfield 88, 3) := by decide +kernel
theorem dX12_readThing_122 : decode cX12_readThing 122 = .ok (.ifCond .eq 4, 3) := by decide +kernel
theorem dX12_readThing_125 : decode cX12_readThing 125 = .ok (.return_, 1) := by decide +kernel
theorem dX12_readThing_126 : decode cX12_readThing 126 = .ok (.aload_n 0, 1) := by decide +kernel
theorem dX12_readThing_127 : decode cX12_readThing 127 = .ok (.getfield 13, 3) := by decide +kernel
theorem dX12_readThing_130 : decode cX12_readThing 130 = .ok (.iconst 2, 1) := by decide +kernel
theorem dX12_readThing_131 : decode cX12_readThing 131 = .ok (.iaload, 1) := by decide +kernel
theorem dX12_readThing_132 : decode cX12_readThing 132 = .ok (.istore 6, 2) := by decide +kernel
theorem dX12_readThing_134 : decode cX12_readThing 134 = .ok (.aload_n 0, 1) := by decide +kernel
theorem dX12_readThing_135 : decode cX12_readThing 135 = .ok (.getfield 13, 3) := by decide +kernel
theorem dX12_readThing_138 : decode cX12_readThing 138 = .ok (.bipush 8, 2) := by decide +kernel
theorem dX12_readThing_140 : decode cX12_readThing 140 = .ok (.iload 6, 2) := by decide +kernel
theorem dX12_readThing_142 : decode cX12_readThing 142 = .ok (.iadd, 1) := by decide +kernel
theorem dX12_readThing_143 : decode cX12_readThing 143 = .ok (.iload_n 1, 1) := by decide +kernel
theorem dX12_readThing_144 : decode cX12_readThing 144 = .ok (.iastore, 1) := by decide +kernel
theorem dX12_readThing_145 : decode cX12_readThing 145 = .ok (.aload_n 0, 1) := by decide +kernel
theorem dX12_readThing_146 : decode cX12_readThing 146 = .ok (.getfield 13, 3) := by decide +kernel
theorem dX12_readThing_149 : decode cX12_readThing 149 = .ok (.bipush 16, 2) := by decide +kernel
theorem dX12_readThing_15 : decode cX12_readThing 15 = .ok (.iconst 2, 1) := by decide +kernel
theorem dX12_readThing_151 : decode cX12_readThing 151 = .ok (.iload 6, 2) := by decide +kernel
theorem dX12_readThing_153 : decode cX12_readThing 153 = .ok (.iadd, 1) := by decide +kernel
theorem dX12_readThing_154 : decode cX12_readThing 154 = .ok (.iload_n 2, 1) := by decide +kernel
theorem dX12_readThing_155 : decode cX12_readThing 155 = .ok (.iastore, 1) := by decide +kernel
theorem dX12_readThing_156 : decode cX12_readThing 156 = .ok (.aload_n 0, 1) := by decide +kernel
theorem dX12_readThing_157 : decode cX12_readThing 157 = .ok (.getfield 13, 3) := by decide +kernel
theorem dX12_readThing_16 : decode cX12_readThing 16 = .ok (.if_icmp .ne 23, 3) := by decide +kernel
theorem dX12_readThing_160 : decode cX12_readThing 160 = .ok (.bipush 26, 2) := by decide +kernel
theorem dX12_readThing_162 : decode cX12_readThing 162 = .ok (.iload 6, 2) := by decide +kernel
theorem dX12_readThing_164 : decode cX12_readThing 164 = .ok (.iadd, 1) := by decide +kernel
theorem dX12_readThing_165 : decode cX12_readThing 165 = .ok (.iload_n 3, 1) := by decide +kernel
theorem dX12_readThing_166 : decode cX12_readThing 166 = .ok (.iastore, 1) := by decide +kernel
theorem dX12_readThing_167 : decode cX12_readThing 167 = .ok (.aload_n 0, 1) := by decide +kernel
theorem dX12_readThing_168 : decode cX12_readThing 168 = .ok (.getfield 13, 3) := by decide +kernel
theorem dX12_readThing_171 : decode cX12_readThing 171 = .ok (.bipush 34, 2) := by decide +kernel
theorem dX12_readThing_173 : decode cX12_readThing 173 = .ok (.iload 6, 2) := by decide +kernel
theorem dX12_readThing_175 : decode cX12_readThing 175 = .ok (.iadd, 1) := by decide +kernel
theorem dX12_readThing_176 : decode cX12_readThing 176 = .ok (.iload 4, 2) := by decide +kernel
theorem dX12_readThing_178 : decode cX12_readThing 178 = .ok (.iastore, 1) := by decide +kernel
theorem dX12_readThing_179 : decode cX12_readThing 179 = .ok (.aload_n 0, 1) := by decide +kernel
theorem dX12_readThing_180 : decode cX12_readThing 180 = .ok (.getfield 13, 3) := by decide +kernel
theorem dX12_readThing_183 : decode cX12_readThing 183 = .ok (.bipush 42, 2) := by decide +kernel
theorem dX12_readThing_185 : decode cX12_readThing 185 = .ok (.iload 6, 2) := by decide +kernel
theorem dX12_readThing_187 : decode cX12_readThing 187 = .ok (.iadd, 1) := by decide +kernel
theorem dX12_readThing_188 : decode cX12_readThing 188 = .ok (.iload 5, 2) := by decide +kernel
theorem dX12_readThing_19 : decode cX12_readThing 19 = .ok (.aload_n 0, 1) := by decide +kernel
theorem dX12_readThing_190 : decode cX12_readThing 190 = .ok (.ifCond .eq 7, 3) := by decide +kernel
theorem dX12_readThing_193 : decode cX12_readThing 193 = .ok (.iconst 1, 1) := by decide +kernel
theorem dX12_readThing_194 : decode cX12_readThing 194 = .ok (.goto 4, 3) := by decide +kernel
theorem dX12_readThing_197 : decode cX12_readThing 197 = .ok (.iconst 0, 1) := by decide +kernel
theorem dX12_readThing_198 : decode cX12_readThing 198 = .ok (.iastore, 1) := by decide +kernel
theorem dX12_readThing_199 : decode cX12_readThing 199 = .ok (.aload_n 0, 1) := by decide +kernel
theorem dX12_readThing_2 : decode cX12_readThing 2 = .ok (.bipush 8, 2) := by decide +kernel
theorem dX12_readThing_20 : decode cX12_readThing 20 = .ok (.getfield 13, 3) := by decide +kernel
theorem dX12_readThing_200 : decode cX12_readThing 200 = .ok (.getfield 13, 3) := by decide +kernel
theorem dX12_readThing_203 : decode cX12_readThing 203 = .ok (.iconst 2, 1) := by decide +kernel
theorem dX12_readThing_204 : decode cX12_readThing 204 = .ok (.dup2, 1) := by decide +kernel
theorem dX12_readThing_205 : decode cX12_readThing 205 = .ok (.iaload, 1) := by decide +kernel
theorem dX12_readThing_206 : decode cX12_readThing 206 = .ok (.iconst 1, 1) := by decide +kernel
theorem dX12_readThing_207 : decode cX12_readThing 207 = .ok (.iadd, 1) := by decide +kernel
theorem dX12_readThing_208 : decode cX12_readThing 208 = .ok (.iastore, 1) := by decide +kernel
theorem dX12_readThing_209 : decode cX12_readThing 209 = .ok (.return_, 1) := by decide +kernel
theorem dX12_readThing_23 : decode cX12_readThing 23 = .ok (.aload_n 0, 1) := by decide +kernel
theorem dX12_readThing_24 : decode cX12_readThing 24 = .ok (.getfield 102, 3) := by decide +kernel
theorem dX12_readThing_27 : decode cX12_readThing 27 = .ok (.invokestatic 209, 3) := by decide +kernel
theorem dX12_readThing_30 : decode cX12_readThing 30 = .ok (.iconst (-1), 1) := by decide +kernel
theorem dX12_readThing_31 : decode cX12_readThing 31 = .ok (.if_icmp .eq 8, 3) := by decide +kernel
theorem dX12_readThing_34 : decode cX12_readThing 34 = .ok (.aload_n 0, 1) := by decide +kernel
theorem dX12_readThing_35 : decode cX12_readThing 35 = .ok (.iconst 3, 1) := by decide +kernel
theorem dX12_readThing_36 : decode cX12_readThing 36 = .ok (.invokevirtual 133, 3) := by decide +kernel
theorem dX12_readThing_39 : decode cX12_readThing 39 = .ok (.aload_n 0, 1) := by decide +kernel
theorem dX12_readThing_4 : decode cX12_readThing 4 = .ok (.invokevirtual 203, 3) := by decide +kernel
theorem dX12_readThing_40 : decode cX12_readThing 40 = .ok (.iconst 0, 1) := by decide +kernel
theorem dX12_readThing_41 : decode cX12_readThing 41 = .ok (.aload_n 0, 1) := by decide +kernel
theorem dX12_readThing_42 : decode cX12_readThing 42 = .ok (.getfield 13, 3) := by decide +kernel
theorem dX12_readThing_45 : decode cX12_readThing 45 = .ok (.iconst 1, 1) := by decide +kernel
theorem dX12_readThing_46 : decode cX12_readThing 46 = .ok (.iaload, 1) := by decide +kernel
theorem dX12_readThing_47 : decode cX12_readThing 47 = .ok (.iconst 1, 1) := by decide +kernel
theorem dX12_readThing_48 : decode cX12_readThing 48 = .ok (.isub, 1) := by decide +kernel
theorem dX12_readThing_49 : decode cX12_readThing 49 = .ok (.invokevirtual 199, 3) := by decide +kernel
theorem dX12_readThing_52 : decode cX12_readThing 52 = .ok (.istore_n 1, 1) := by decide +kernel
theorem dX12_readThing_53 : decode cX12_readThing 53 = .ok (.aload_n 0, 1) := by decide +kernel
theorem dX12_readThing_54 : decode cX12_readThing 54 = .ok (.ldc 213, 2) := by decide +kernel
theorem dX12_readThing_56 : decode cX12_readThing 56 = .ok (.invokevirtual 215, 3) := by decide +kernel
theorem dX12_readThing_59 : decode cX12_readThing 59 = .ok (.aload_n 0, 1) := by decide +kernel
theorem dX12_readThing_60 : decode cX12_readThing 60 = .ok (.iconst 0, 1) := by decide +kernel
theorem dX12_readThing_61 : decode cX12_readThing 61 = .ok (.bipush 99, 2) := by decide +kernel
theorem dX12_readThing_63 : decode cX12_readThing 63 = .ok (.invokevirtual 199, 3) := by decide +kernel
theorem dX12_readThing_66 : decode cX12_readThing 66 = .ok (.istore_n 2, 1) := by decide +kernel
theorem dX12_readThing_67 : decode cX12_readThing 67 = .ok (.aload_n 0, 1) := by decide +kernel
theorem dX12_readThing_68 : decode cX12_readThing 68 = .ok (.ldc 219, 2) := by decide +kernel
theorem dX12_readThing_7 : decode cX12_readThing 7 = .ok (.ifCond .ne 4, 3) := by decide +kernel
theorem dX12_readThing_70 : decode cX12_readThing 70 = .ok (.invokevirtual 130, 3) := by decide +kernel
theorem dX12_readThing_73 : decode cX12_readThing 73 = .ok (.ifCond .eq 13, 3) := by decide +kernel
theorem dX12_readThing_76 : decode cX12_readThing 76 = .ok (.aload_n 0, 1) := by decide +kernel
theorem dX12_readThing_77 : decode cX12_readThing 77 = .ok (.iconst 0, 1) := by decide +kernel
theorem dX12_readThing_78 : decode cX12_readThing 78 = .ok (.bipush 9, 2) := by decide +kernel
theorem dX12_readThing_80 : decode cX12_readThing 80 = .ok (.invokevirtual 199, 3) := by decide +kernel
theorem dX12_readThing_83 : decode cX12_readThing 83 = .ok (.goto 4, 3) := by decide +kernel
theorem dX12_readThing_86 : decode cX12_readThing 86 = .ok (.iconst 0, 1) := by decide +kernel
theorem dX12_readThing_87 : decode cX12_readThing 87 = .ok (.istore_n 3, 1) := by decide +kernel
theorem dX12_readThing_88 : decode cX12_readThing 88 = .ok (.aload_n 0, 1) := by decide +kernel
theorem dX12_readThing_89 : decode cX12_readThing 89 = .ok (.ldc 221, 2) := by decide +kernel
theorem dX12_readThing_91 : decode cX12_readThing 91 = .ok (.invokevirtual 130, 3) := by decide +kernel
theorem dX12_readThing_94 : decode cX12_readThing 94 = .ok (.ifCond .eq 13, 3) := by decide +kernel
theorem dX12_readThing_97 : decode cX12_readThing 97 = .ok (.aload_n 0, 1) := by decide +kernel
theorem dX12_readThing_98 : decode cX12_readThing 98 = .ok (.iconst 1, 1) := by decide +kernel
theorem dX12_readThing_99 : decode cX12_readThing 99 = .ok (.bipush 9, 2) := by decide +kernel
set_option maxHeartbeats 4000000 in
set_option maxRecDepth 4000 in
theorem kp_X12_isWord_131_1064 (l : Launch) (M : Mem) (hJ : Iw M) (hp0 : 0 ≤ M 131 9 ∧ M 131 9 ≤ M 131 8 ∧ M 131 8 ≤ M 131 7 ∧ M 131 7 ≤ 900 ∧ (M 131 10 = 0 ∨ M 131 9 < M 131 8)) : CI l yX12_isWord cX12_isWord 4 (some .boolean) 5 (fun ad => [.ref (ad 131), .ref (ad 1064)]) M (fun z M' => (0 ≤ z ∧ z ≤ 1) ∧ M = M' ∧ (z = 1 → M 131 12 = 0 ∧ M 131 10 = 1)) := by
  obtain ⟨hI, hW⟩ := hJ
  refine en_z (by decide +kernel) (fun ad => by exact Nat.le_of_ble_eq_true rfl) (fun D cy ad A p e s m args below meth c Q F hret => ?_)
  refine z_eq (ls' := [(0, .ref (ad 131)), (1, .ref (ad 1064))]) rfl rfl rfl ?_
  obtain ⟨u1, eu1⟩ : ∃ v : Int, v = M 131 7 := ⟨_, rfl⟩
  have ku1 : 0 ≤ u1 ∧ u1 ≤ 900 := by have := hI.at (show Bd 131 7 = (0, 900) from rfl); omega
  obtain ⟨u2, eu2⟩ : ∃ v : Int, v = M 131 8 := ⟨_, rfl⟩
  have ku2 : 0 ≤ u2 ∧ u2 ≤ 900 := by have := hI.at (show Bd 131 8 = (0, 900) from rfl); omega
  obtain ⟨u3, eu3⟩ : ∃ v : Int, v = M 131 9 := ⟨_, rfl⟩
  have ku3 : 0 ≤ u3 ∧ u3 ≤ 900 := by have := hI.at (show Bd 131 9 = (0, 900) from rfl); omega
  obtain ⟨u4, eu4⟩ : ∃ v : Int, v = M 131 10 := ⟨_, rfl⟩
  have ku4 : (-2147483648) ≤ u4 ∧ u4 ≤ 2147483647 := by have := hI.at (show Bd 131 10 = (-2147483648, 2147483647) from rfl); omega
  obtain ⟨u5, eu5⟩ : ∃ v : Int, v = M 131 12 := ⟨_, rfl⟩
  have ku5 : 0 ≤ u5 ∧ u5 ≤ 4 := by have := hI.at (show Bd 131 12 = (0, 4) from rfl); omega
  obtain ⟨u6, eu6⟩ : ∃ v : Int, v = M 131 16 := ⟨_, rfl⟩
  have ku6 : (-2147483648) ≤ u6 ∧ u6 ≤ 2147483647 := by have := hI.at (show Bd 131 16 = (-2147483648, 2147483647) from rfl); omega
  refine z_aload_n F dX12_isWord_0 rfl (q := 0) rfl ?_
  refine gf_X12_108 F hI gs_131 rfl bd_131_12 dX12_isWord_1 (fun v7 ev7 av7 bv7 => ?_)
  have zv7 : u5 = v7 := eu5.trans ev7.symm
  subst zv7
  refine z_if_ne (tgt := 35) F dX12_isWord_4 (by decide +kernel) (by omega) (fun c8 => ?_) (fun c8 => ?_)
  · refine z_iconst F dX12_isWord_35 ?_
    refine z_istore_n F dX12_isWord_36 rfl (by decide) (ls' := [(2, ii 0), (0, .ref (ad 131)), (1, .ref (ad 1064))]) rfl ?_
    refine z_iconst F dX12_isWord_37 ?_
    refine z_istore_n F dX12_isWord_38 rfl (by decide) (ls' := [(3, ii 0), (2, ii 0), (0, .ref (ad 131)), (1, .ref (ad 1064))]) rfl ?_
    refine z_loc [2, 3, 1, 0] (ls' := [(0, .ref (ad 131)), (1, .ref (ad 1064)), (2, ii 0), (3, ii 0)]) rfl ?_
    suffices key39 : ∀ (n : Nat) (y10 : Int) (y11 : Int), 0 ≤ y10 → y10 ≤ 0 → 0 ≤ y11 → y11 ≤ 0 → (y10 = 1 → M 131 12 = 0 ∧ M 131 10 = 1 ∧ M 131 8 - M 131 9 = 5) → 0 < (n : Int) → Z D cy ad p l e (RMh 5) s m args below meth c A 4 0 0 Q 39 [(0, .ref (ad 131)), (1, .ref (ad 1064)), (2, ii y10), (3, ii y11)] [] M from key39 1 0 0 (by omega) (by omega) (by omega) (by omega) (by omega) (by omega)
    intro n39
    induction n39 with
    | zero => intro y10 y11 ay10 by10 ay11 by11 i39_0 hn39; exfalso; omega
    | succ n39 ih39 =>
      intro y10 y11 ay10 by10 ay11 by11 i39_0 hn39
      refine z_iload_n F dX12_isWord_39 rfl (q := 2) rfl ?_
      refine z_if_eq (tgt := 82) F dX12_isWord_40 (by decide +kernel) (by omega) (fun c12 => ?_) (fun c12 => by exfalso; omega)
      refine z_iload_n F dX12_isWord_82 rfl (q := 2) rfl ?_
      exact hret _ _ 83 _ ⟨by omega, by omega⟩ ⟨hI, hW⟩ ⟨⟨by omega, by omega⟩, rfl, (by omega)⟩ dX12_isWord_83
  · refine z_aload_n F dX12_isWord_7 rfl (q := 0) rfl ?_
    refine gf_X12_88 F hI gs_131 rfl bd_131_10 dX12_isWord_8 (fun v13 ev13 av13 bv13 => ?_)
    have zv13 : u4 = v13 := eu4.trans ev13.symm
    subst zv13
    refine z_iconst F dX12_isWord_11 ?_
    refine z_icmp_ne (tgt := 35) F dX12_isWord_12 (by decide +kernel) (by omega) (by omega) (fun c14 => ?_) (fun c14 => ?_)
    · refine z_iconst F dX12_isWord_35 ?_
      refine z_istore_n F dX12_isWord_36 rfl (by decide) (ls' := [(2, ii 0), (0, .ref (ad 131)), (1, .ref (ad 1064))]) rfl ?_
      refine z_iconst F dX12_isWord_37 ?_
      refine z_istore_n F dX12_isWord_38 rfl (by decide) (ls' := [(3, ii 0), (2, ii 0), (0, .ref (ad 131)), (1, .ref (ad 1064))]) rfl ?_
      refine z_loc [2, 3, 1, 0] (ls' := [(0, .ref (ad 131)), (1, .ref (ad 1064)), (2, ii 0), (3, ii 0)]) rfl ?_
      suffices key39 : ∀ (n : Nat) (y16 : Int) (y17 : Int), 0 ≤ y16 → y16 ≤ 0 → 0 ≤ y17 → y17 ≤ 0 → (y16 = 1 → M 131 12 = 0 ∧ M 131 10 = 1 ∧ M 131 8 - M 131 9 = 5) → 0 < (n : Int) → Z D cy ad p l e (RMh 5) s m args below meth c A 4 0 0 Q 39 [(0, .ref (ad 131)), (1, .ref (ad 1064)), (2, ii y16), (3, ii y17)] [] M from key39 1 0 0 (by omega) (by omega) (by omega) (by omega) (by omega) (by omega)
      intro n39
      induction n39 with
      | zero => intro y16 y17 ay16 by16 ay17 by17 i39_0 hn39; exfalso; omega
      | succ n39 ih39 =>
        intro y16 y17 ay16 by16 ay17 by17 i39_0 hn39
        refine z_iload_n F dX12_isWord_39 rfl (q := 2) rfl ?_
        refine z_if_eq (tgt := 82) F dX12_isWord_40 (by decide +kernel) (by omega) (fun c18 => ?_) (fun c18 => by exfalso; omega)
        refine z_iload_n F dX12_isWord_82 rfl (q := 2) rfl ?_
        exact hret _ _ 83 _ ⟨by omega, by omega⟩ ⟨hI, hW⟩ ⟨⟨by omega, by omega⟩, rfl, (by omega)⟩ dX12_isWord_83
    · refine z_aload_n F dX12_isWord_15 rfl (q := 0) rfl ?_
      refine gf_X12_82 F hI gs_131 rfl bd_131_8 dX12_isWord_16 (fun v19 ev19 av19 bv19 => ?_)
      have zv19 : u2 = v19 := eu2.trans ev19.symm
      subst zv19
      refine z_aload_n F dX12_isWord_19 rfl (q := 0) rfl ?_
      refine gf_X12_85 F hI gs_131 rfl bd_131_9 dX12_isWord_20 (fun v20 ev20 av20 bv20 => ?_)
      have zv20 : u3 = v20 := eu3.trans ev20.symm
      subst zv20
      refine z_isub F dX12_isWord_23 ?_
      refine z_aload_n F dX12_isWord_24 rfl (q := 1) rfl ?_
      refine zvs_i (i := 64) (rest := [ii (u2 - u3)]) F (kS_len l M ⟨hI, hW⟩ 64 (by decide)) cs_X12_114 (by decide) (by decide) (by decide) rfl rfl rfl (Nat.le_of_ble_eq_true rfl) dX12_isWord_25 (fun v21 M9 rv21 hI9 pv21 => ?_)
      obtain ⟨ev21, rfl⟩ := pv21
      obtain rfl : v21 = 5 := ev21.trans (show ((sbyt.getD 64 []).length : Int) = 5 from by decide)
      clear hI9
      refine z_icmp_ne (tgt := 35) F dX12_isWord_28 (by decide +kernel) (by omega) (by omega) (fun c22 => ?_) (fun c22 => ?_)
      · refine z_iconst F dX12_isWord_35 ?_
        refine z_istore_n F dX12_isWord_36 rfl (by decide) (ls' := [(2, ii 0), (0, .ref (ad 131)), (1, .ref (ad 1064))]) rfl ?_
        refine z_iconst F dX12_isWord_37 ?_
        refine z_istore_n F dX12_isWord_38 rfl (by decide) (ls' := [(3, ii 0), (2, ii 0), (0, .ref (ad 131)), (1, .ref (ad 1064))]) rfl ?_
        refine z_loc [2, 3, 1, 0] (ls' := [(0, .ref (ad 131)), (1, .ref (ad 1064)), (2, ii 0), (3, ii 0)]) rfl ?_
        suffices key39 : ∀ (n : Nat) (y24 : Int) (y25 : Int), 0 ≤ y24 → y24 ≤ 0 → 0 ≤ y25 → y25 ≤ 0 → (y24 = 1 → M 131 12 = 0 ∧ M 131 10 = 1 ∧ M 131 8 - M 131 9 = 5) → 0 < (n : Int) → Z D cy ad p l e (RMh 5) s m args below meth c A 4 0 0 Q 39 [(0, .ref (ad 131)), (1, .ref (ad 1064)), (2, ii y24), (3, ii y25)] [] M from key39 1 0 0 (by omega) (by omega) (by omega) (by omega) (by omega) (by omega)
        intro n39
        induction n39 with
        | zero => intro y24 y25 ay24 by24 ay25 by25 i39_0 hn39; exfalso; omega
        | succ n39 ih39 =>
          intro y24 y25 ay24 by24 ay25 by25 i39_0 hn39
          refine z_iload_n F dX12_isWord_39 rfl (q := 2) rfl ?_
          refine z_if_eq (tgt := 82) F dX12_isWord_40 (by decide +kernel) (by omega) (fun c26 => ?_) (fun c26 => by exfalso; omega)
          refine z_iload_n F dX12_isWord_82 rfl (q := 2) rfl ?_
          exact hret _ _ 83 _ ⟨by omega, by omega⟩ ⟨hI, hW⟩ ⟨⟨by omega, by omega⟩, rfl, (by omega)⟩ dX12_isWord_83
      · refine z_iconst F dX12_isWord_31 ?_
        refine z_goto (tgt := 36) F dX12_isWord_32 (by decide +kernel) ?_
        refine z_istore_n F dX12_isWord_36 rfl (by decide) (ls' := [(2, ii 1), (0, .ref (ad 131)), (1, .ref (ad 1064))]) rfl ?_
        refine z_iconst F dX12_isWord_37 ?_
        refine z_istore_n F dX12_isWord_38 rfl (by decide) (ls' := [(3, ii 0), (2, ii 1), (0, .ref (ad 131)), (1, .ref (ad 1064))]) rfl ?_
        refine z_loc [2, 3, 1, 0] (ls' := [(0, .ref (ad 131)), (1, .ref (ad 1064)), (2, ii 1), (3, ii 0)]) rfl ?_
        suffices key39 : ∀ (n : Nat) (y28 : Int) (y29 : Int), 0 ≤ y28 → y28 ≤ 1 → 0 ≤ y29 → y29 ≤ 5 → (y28 = 1 → M 131 12 = 0 ∧ M 131 10 = 1 ∧ M 131 8 - M 131 9 = 5) → 5 - y29 < (n : Int) → Z D cy ad p l e (RMh 5) s m args below meth c A 4 0 0 Q 39 [(0, .ref (ad 131)), (1, .ref (ad 1064)), (2, ii y28), (3, ii y29)] [] M from key39 6 1 0 (by omega) (by omega) (by omega) (by omega) (by omega) (by omega)
        intro n39
        induction n39 with
        | zero => intro y28 y29 ay28 by28 ay29 by29 i39_0 hn39; exfalso; omega
        | succ n39 ih39 =>
          intro y28 y29 ay28 by28 ay29 by29 i39_0 hn39
          refine z_iload_n F dX12_isWord_39 rfl (q := 2) rfl ?_
          refine z_if_eq (tgt := 82) F dX12_isWord_40 (by decide +kernel) (by omega) (fun c30 => ?_) (fun c30 => ?_)
          · refine z_iload_n F dX12_isWord_82 rfl (q := 2) rfl ?_
            exact hret _ _ 83 _ ⟨by omega, by omega⟩ ⟨hI, hW⟩ ⟨⟨by omega, by omega⟩, rfl, (by omega)⟩ dX12_isWord_83
          · refine z_iload_n F dX12_isWord_43 rfl (q := 3) rfl ?_
            refine z_aload_n F dX12_isWord_44 rfl (q := 1) rfl ?_
            refine zvs_i (i := 64) (rest := [ii y29]) F (kS_len l M ⟨hI, hW⟩ 64 (by decide)) cs_X12_114 (by decide) (by decide) (by decide) rfl rfl rfl (Nat.le_of_ble_eq_true rfl) dX12_isWord_45 (fun v31 M9 rv31 hI9 pv31 => ?_)
            obtain ⟨ev31, rfl⟩ := pv31
            obtain rfl : v31 = 5 := ev31.trans (show ((sbyt.getD 64 []).length : Int) = 5 from by decide)
            clear hI9
            refine z_icmp_ge (tgt := 82) F dX12_isWord_48 (by decide +kernel) (by omega) (by omega) (fun c32 => ?_) (fun c32 => ?_)
            · refine z_iload_n F dX12_isWord_82 rfl (q := 2) rfl ?_
              exact hret _ _ 83 _ ⟨by omega, by omega⟩ ⟨hI, hW⟩ ⟨⟨by omega, by omega⟩, rfl, (by omega)⟩ dX12_isWord_83
            · refine z_aload_n F dX12_isWord_51 rfl (q := 0) rfl ?_
              refine rf_X12_23 F gs_131 rfl dX12_isWord_52 ?_
              refine z_aload_n F dX12_isWord_55 rfl (q := 0) rfl ?_
              refine gf_X12_85 F hI gs_131 rfl bd_131_9 dX12_isWord_56 (fun v33 ev33 av33 bv33 => ?_)
              have zv33 : u3 = v33 := eu3.trans ev33.symm
              subst zv33
              refine z_iload_n F dX12_isWord_59 rfl (q := 3) rfl ?_
              refine z_iadd F dX12_isWord_60 ?_
              have k34 : 0 ≤ (u3 + y29) ∧ (u3 + y29) ≤ 899 := by omega
              refine z_iald F hI gs_136 (by omega) (by omega) (by decide) bd_136 dX12_isWord_61 (fun v35 (ev35 : v35 = M 136 _) av35 bv35 => ?_)
              refine z_aload_n F dX12_isWord_62 rfl (q := 1) rfl ?_
              refine z_iload_n F dX12_isWord_63 rfl (q := 3) rfl ?_
              refine zvs_i (i := 64) (rest := [ii v35]) F (kS_chr l M ⟨hI, hW⟩ 64 (by decide) y29 (by omega) (show y29 < ((sbyt.getD 64 []).length : Int) from by rw [show ((sbyt.getD 64 []).length : Int) = 5 from by decide]; omega)) cs_X12_119 (by decide) (by decide) (by decide) rfl rfl rfl (Nat.le_of_ble_eq_true rfl) dX12_isWord_64 (fun v36 M9 rv36 hI9 pv36 => ?_)
              obtain ⟨⟨av36, bv36⟩, rfl⟩ := pv36
              clear hI9
              refine z_icmp_ne (tgt := 74) F dX12_isWord_67 (by decide +kernel) (by omega) (by omega) (fun c37 => ?_) (fun c37 => ?_)
              · refine z_iconst F dX12_isWord_74 ?_
                refine z_istore_n F dX12_isWord_75 rfl (by decide) (ls' := [(2, ii 0), (0, .ref (ad 131)), (1, .ref (ad 1064)), (3, ii y29)]) rfl ?_
                refine z_iincN F dX12_isWord_76 (q := 3) rfl (by decide) (fun v38 ev38 => ?_)
                refine z_eq (ls' := [(3, ii v38), (2, ii 0), (0, .ref (ad 131)), (1, .ref (ad 1064))]) rfl rfl rfl ?_
                refine z_goto (tgt := 39) F dX12_isWord_79 (by decide +kernel) ?_
                refine z_loc [2, 3, 1, 0] (ls' := [(0, .ref (ad 131)), (1, .ref (ad 1064)), (2, ii 0), (3, ii v38)]) rfl ?_
                exact ih39 0 v38 (by omega) (by omega) (by omega) (by omega) (by omega) (by omega)
              · refine z_iconst F dX12_isWord_70 ?_
                refine z_goto (tgt := 75) F dX12_isWord_71 (by decide +kernel) ?_
                refine z_istore_n F dX12_isWord_75 rfl (by decide) (ls' := [(2, ii 1), (0, .ref (ad 131)), (1, .ref (ad 1064)), (3, ii y29)]) rfl ?_
                refine z_iincN F dX12_isWord_76 (q := 3) rfl (by decide) (fun v39 ev39 => ?_)
                refine z_eq (ls' := [(3, ii v39), (2, ii 1), (0, .ref (ad 131)), (1, .ref (ad 1064))]) rfl rfl rfl ?_
                refine z_goto (tgt := 39) F dX12_isWord_79 (by decide +kernel) ?_
                refine z_loc [2, 3, 1, 0] (ls' := [(0, .ref (ad 131)), (1, .ref (ad 1064)), (2, ii 1), (3, ii v39)]) rfl ?_
                exact ih39 1 v39 (by omega) (by omega) (by omega) (by omega) (by omega) (by omega)
set_option maxHeartbeats 4000000 in
set_option maxRecDepth 4000 in
theorem kp_X12_took_131_1064 (l : Launch) (M : Mem) (hJ : Iw M) (hp0 : 0 ≤ M 131 9 ∧ M 131 9 ≤ M 131 8 ∧ M 131 8 ≤ M 131 7 ∧ M 131 7 ≤ 900 ∧ (M 131 10 = 0 ∨ M 131 9 < M 131 8)) : CI l yX12_took cX12_took 3 (some .boolean) 6 (fun ad => [.ref (ad 131), .ref (ad 1064)]) M (fun z M' => (0 ≤ z ∧ z ≤ 1) ∧ Fr [131] M M' ∧ (M' 131 7 = M 131 7 ∧ M' 131 16 = M 131 16 ∧ M 131 9 ≤ M' 131 9 ∧ 0 ≤ M' 131 9 ∧ M' 131 9 ≤ M' 131 8 ∧ M' 131 8 ≤ M' 131 7 ∧ M' 131 7 ≤ 900 ∧ (M' 131 10 = 0 ∨ M' 131 9 < M' 131 8) ∧ M' 131 12 = M 131 12 ∧ (z = 1 → M 131 12 = 0 ∧ M 131 9 < M' 131 9))) := by
  obtain ⟨hI, hW⟩ := hJ
  have hF : Fr [131] M M := Fr.rf
  refine en_z (by decide +kernel) (fun ad => by exact Nat.le_of_ble_eq_true rfl) (fun D cy ad A p e s m args below meth c Q F hret => ?_)
  refine z_eq (ls' := [(0, .ref (ad 131)), (1, .ref (ad 1064))]) rfl rfl rfl ?_
  refine z_aload_n F dX12_took_0 rfl (q := 0) rfl ?_
  refine z_aload_n F dX12_took_1 rfl (q := 1) rfl ?_
  refine zv_i (rest := []) F (kp_X12_isWord_131_1064 l M ⟨hI, hW⟩ (by omega)) cs_X12_123 (T := TX12) (N := 44) (ci := 12) rfl gs_131 (by decide) (by decide) rfl rfl rfl (Nat.le_of_ble_eq_true rfl) dX12_took_2 (fun v1 M2 rv1 hI p3 => ?_)
  obtain ⟨hI, hW⟩ := hI
  obtain ⟨⟨av1, bv1⟩, rfl, xp3⟩ := p3
  refine z_istore_n F dX12_took_5 rfl (by decide) (ls' := [(2, ii v1), (0, .ref (ad 131)), (1, .ref (ad 1064))]) rfl ?_
  refine z_iload_n F dX12_took_6 rfl (q := 0) rfl ?_
  refine z_if_eq (tgt := 14) F dX12_took_7 (by decide +kernel) (by omega) (fun c4 => ?_) (fun c4 => ?_)
  · refine z_iload_n F dX12_took_14 rfl (q := 0) rfl ?_
    exact hret _ _ 15 _ ⟨by omega, by omega⟩ ⟨hI, hW⟩ ⟨⟨by omega, by omega⟩, hF, (by omega)⟩ dX12_took_15
  · refine z_aload_n F dX12_took_10 rfl (q := 1) rfl ?_
    refine zv_v (rest := []) F (kp_X12_readsOn l M ⟨hI, hW⟩ (by omega)) cs_X12_127 (T := TX12) (N := 44) (ci := 12) rfl gs_131 (by decide) (by decide) rfl rfl rfl (Nat.le_of_ble_eq_true rfl) dX12_took_11 (fun M5 hI p6 => ?_)
    obtain ⟨hI, hW⟩ := hI
    obtain ⟨fp6, xp6⟩ := p6
    have hF := hF.call fp6 (by decide)
    have tM5_133_6 : M5 133 6 = M 133 6 := fp6.at (by decide)
    have tM5_133_1 : M5 133 1 = M 133 1 := fp6.at (by decide)
    refine z_iload_n F dX12_took_14 rfl (q := 0) rfl ?_
    exact hret _ _ 15 _ ⟨by omega, by omega⟩ ⟨hI, hW⟩ ⟨⟨by omega, by omega⟩, hF, (by omega)⟩ dX12_took_15
set_option maxHeartbeats 4000000 in
set_option maxRecDepth 4000 in
theorem kp_X12_isWord_131_1063 (l : Launch) (M : Mem) (hJ : Iw M) (hp0 : 0 ≤ M 131 9 ∧ M 131 9 ≤ M 131 8 ∧ M 131 8 ≤ M 131 7 ∧ M 131 7 ≤ 900 ∧ (M 131 10 = 0 ∨ M 131 9 < M 131 8)) : CI l yX12_isWord cX12_isWord 4 (some .boolean) 5 (fun ad => [.ref (ad 131), .ref (ad 1063)]) M (fun z M' => (0 ≤ z ∧ z ≤ 1) ∧ M = M' ∧ (z = 1 → M 131 12 = 0 ∧ M 131 10 = 1)) := by
  obtain ⟨hI, hW⟩ := hJ
  refine en_z (by decide +kernel) (fun ad => by exact Nat.le_of_ble_eq_true rfl) (fun D cy ad A p e s m args below meth c Q F hret => ?_)
  refine z_eq (ls' := [(0, .ref (ad 131)), (1, .ref (ad 1063))]) rfl rfl rfl ?_
  obtain ⟨u1, eu1⟩ : ∃ v : Int, v = M 131 7 := ⟨_, rfl⟩
  have ku1 : 0 ≤ u1 ∧ u1 ≤ 900 := by have := hI.at (show Bd 131 7 = (0, 900) from rfl); omega
  obtain ⟨u2, eu2⟩ : ∃ v : Int, v = M 131 8 := ⟨_, rfl⟩
  have ku2 : 0 ≤ u2 ∧ u2 ≤ 900 := by have := hI.at (show Bd 131 8 = (0, 900) from rfl); omega
  obtain ⟨u3, eu3⟩ : ∃ v : Int, v = M 131 9 := ⟨_, rfl⟩
  have ku3 : 0 ≤ u3 ∧ u3 ≤ 900 := by have := hI.at (show Bd 131 9 = (0, 900) from rfl); omega
  obtain ⟨u4, eu4⟩ : ∃ v : Int, v = M 131 10 := ⟨_, rfl⟩
  have ku4 : (-2147483648) ≤ u4 ∧ u4 ≤ 2147483647 := by have := hI.at (show Bd 131 10 = (-2147483648, 2147483647) from rfl); omega
  obtain ⟨u5, eu5⟩ : ∃ v : Int, v = M 131 12 := ⟨_, rfl⟩
  have ku5 : 0 ≤ u5 ∧ u5 ≤ 4 := by have := hI.at (show Bd 131 12 = (0, 4) from rfl); omega
  obtain ⟨u6, eu6⟩ : ∃ v : Int, v = M 131 16 := ⟨_, rfl⟩
  have ku6 : (-2147483648) ≤ u6 ∧ u6 ≤ 2147483647 := by have := hI.at (show Bd 131 16 = (-2147483648, 2147483647) from rfl); omega
  refine z_aload_n F dX12_isWord_0 rfl (q := 0) rfl ?_
  refine gf_X12_108 F hI gs_131 rfl bd_131_12 dX12_isWord_1 (fun v7 ev7 av7 bv7 => ?_)
  have zv7 : u5 = v7 := eu5.trans ev7.symm
  subst zv7
  refine z_if_ne (tgt := 35) F dX12_isWord_4 (by decide +kernel) (by omega) (fun c8 => ?_) (fun c8 => ?_)
  · refine z_iconst F dX12_isWord_35 ?_
    refine z_istore_n F dX12_isWord_36 rfl (by decide) (ls' := [(2, ii 0), (0, .ref (ad 131)), (1, .ref (ad 1063))]) rfl ?_
    refine z_iconst F dX12_isWord_37 ?_
    refine z_istore_n F dX12_isWord_38 rfl (by decide) (ls' := [(3, ii 0), (2, ii 0), (0, .ref (ad 131)), (1, .ref (ad 1063))]) rfl ?_
    refine z_loc [2, 3, 1, 0] (ls' := [(0, .ref (ad 131)), (1, .ref (ad 1063)), (2, ii 0), (3, ii 0)]) rfl ?_
    suffices key39 : ∀ (n : Nat) (y10 : Int) (y11 : Int), 0 ≤ y10 → y10 ≤ 0 → 0 ≤ y11 → y11 ≤ 0 → (y10 = 1 → M 131 12 = 0 ∧ M 131 10 = 1 ∧ M 131 8 - M 131 9 = 4) → 0 < (n : Int) → Z D cy ad p l e (RMh 5) s m args below meth c A 4 0 0 Q 39 [(0, .ref (ad 131)), (1, .ref (ad 1063)), (2, ii y10), (3, ii y11)] [] M from key39 1 0 0 (by omega) (by omega) (by omega) (by omega) (by omega) (by omega)
    intro n39
    induction n39 with
    | zero => intro y10 y11 ay10 by10 ay11 by11 i39_0 hn39; exfalso; omega
    | succ n39 ih39 =>
      intro y10 y11 ay10 by10 ay11 by11 i39_0 hn39
      refine z_iload_n F dX12_isWord_39 rfl (q := 2) rfl ?_
      refine z_if_eq (tgt := 82) F dX12_isWord_40 (by decide +kernel) (by omega) (fun c12 => ?_) (fun c12 => by exfalso; omega)
      refine z_iload_n F dX12_isWord_82 rfl (q := 2) rfl ?_
      exact hret _ _ 83 _ ⟨by omega, by omega⟩ ⟨hI, hW⟩ ⟨⟨by omega, by omega⟩, rfl, (by omega)⟩ dX12_isWord_83
  · refine z_aload_n F dX12_isWord_7 rfl (q := 0) rfl ?_
    refine gf_X12_88 F hI gs_131 rfl bd_131_10 dX12_isWord_8 (fun v13 ev13 av13 bv13 => ?_)
    have zv13 : u4 = v13 := eu4.trans ev13.symm
    subst zv13
    refine z_iconst F dX12_isWord_11 ?_
    refine z_icmp_ne (tgt := 35) F dX12_isWord_12 (by decide +kernel) (by omega) (by omega) (fun c14 => ?_) (fun c14 => ?_)
    · refine z_iconst F dX12_isWord_35 ?_
      refine z_istore_n F dX12_isWord_36 rfl (by decide) (ls' := [(2, ii 0), (0, .ref (ad 131)), (1, .ref (ad 1063))]) rfl ?_
      refine z_iconst F dX12_isWord_37 ?_
      refine z_istore_n F dX12_isWord_38 rfl (by decide) (ls' := [(3, ii 0), (2, ii 0), (0, .ref (ad 131)), (1, .ref (ad 1063))]) rfl ?_
      refine z_loc [2, 3, 1, 0] (ls' := [(0, .ref (ad 131)), (1, .ref (ad 1063)), (2, ii 0), (3, ii 0)]) rfl ?_
      suffices key39 : ∀ (n : Nat) (y16 : Int) (y17 : Int), 0 ≤ y16 → y16 ≤ 0 → 0 ≤ y17 → y17 ≤ 0 → (y16 = 1 → M 131 12 = 0 ∧ M 131 10 = 1 ∧ M 131 8 - M 131 9 = 4) → 0 < (n : Int) → Z D cy ad p l e (RMh 5) s m args below meth c A 4 0 0 Q 39 [(0, .ref (ad 131)), (1, .ref (ad 1063)), (2, ii y16), (3, ii y17)] [] M from key39 1 0 0 (by omega) (by omega) (by omega) (by omega) (by omega) (by omega)
      intro n39
      induction n39 with
      | zero => intro y16 y17 ay16 by16 ay17 by17 i39_0 hn39; exfalso; omega
      | succ n39 ih39 =>
        intro y16 y17 ay16 by16 ay17 by17 i39_0 hn39
        refine z_iload_n F dX12_isWord_39 rfl (q := 2) rfl ?_
        refine z_if_eq (tgt := 82) F dX12_isWord_40 (by decide +kernel) (by omega) (fun c18 => ?_) (fun c18 => by exfalso; omega)
        refine z_iload_n F dX12_isWord_82 rfl (q := 2) rfl ?_
        exact hret _ _ 83 _ ⟨by omega, by omega⟩ ⟨hI, hW⟩ ⟨⟨by omega, by omega⟩, rfl, (by omega)⟩ dX12_isWord_83
    · refine z_aload_n F dX12_isWord_15 rfl (q := 0) rfl ?_
      refine gf_X12_82 F hI gs_131 rfl bd_131_8 dX12_isWord_16 (fun v19 ev19 av19 bv19 => ?_)
      have zv19 : u2 = v19 := eu2.trans ev19.symm
      subst zv19
      refine z_aload_n F dX12_isWord_19 rfl (q := 0) rfl ?_
      refine gf_X12_85 F hI gs_131 rfl bd_131_9 dX12_isWord_20 (fun v20 ev20 av20 bv20 => ?_)
      have zv20 : u3 = v20 := eu3.trans ev20.symm
      subst zv20
      refine z_isub F dX12_isWord_23 ?_
      refine z_aload_n F dX12_isWord_24 rfl (q := 1) rfl ?_
      refine zvs_i (i := 63) (rest := [ii (u2 - u3)]) F (kS_len l M ⟨hI, hW⟩ 63 (by decide)) cs_X12_114 (by decide) (by decide) (by decide) rfl rfl rfl (Nat.le_of_ble_eq_true rfl) dX12_isWord_25 (fun v21 M9 rv21 hI9 pv21 => ?_)
      obtain ⟨ev21, rfl⟩ := pv21
      obtain rfl : v21 = 4 := ev21.trans (show ((sbyt.getD 63 []).length : Int) = 4 from by decide)
      clear hI9
      refine z_icmp_ne (tgt := 35) F dX12_isWord_28 (by decide +kernel) (by omega) (by omega) (fun c22 => ?_) (fun c22 => ?_)
      · refine z_iconst F dX12_isWord_35 ?_
        refine z_istore_n F dX12_isWord_36 rfl (by decide) (ls' := [(2, ii 0), (0, .ref (ad 131)), (1, .ref (ad 1063))]) rfl ?_
        refine z_iconst F dX12_isWord_37 ?_
        refine z_istore_n F dX12_isWord_38 rfl (by decide) (ls' := [(3, ii 0), (2, ii 0), (0, .ref (ad 131)), (1, .ref (ad 1063))]) rfl ?_
        refine z_loc [2, 3, 1, 0] (ls' := [(0, .ref (ad 131)), (1, .ref (ad 1063)), (2, ii 0), (3, ii 0)]) rfl ?_
        suffices key39 : ∀ (n : Nat) (y24 : Int) (y25 : Int), 0 ≤ y24 → y24 ≤ 0 → 0 ≤ y25 → y25 ≤ 0 → (y24 = 1 → M 131 12 = 0 ∧ M 131 10 = 1 ∧ M 131 8 - M 131 9 = 4) → 0 < (n : Int) → Z D cy ad p l e (RMh 5) s m args below meth c A 4 0 0 Q 39 [(0, .ref (ad 131)), (1, .ref (ad 1063)), (2, ii y24), (3, ii y25)] [] M from key39 1 0 0 (by omega) (by omega) (by omega) (by omega) (by omega) (by omega)
        intro n39
        induction n39 with
        | zero => intro y24 y25 ay24 by24 ay25 by25 i39_0 hn39; exfalso; omega
        | succ n39 ih39 =>
          intro y24 y25 ay24 by24 ay25 by25 i39_0 hn39
          refine z_iload_n F dX12_isWord_39 rfl (q := 2) rfl ?_
          refine z_if_eq (tgt := 82) F dX12_isWord_40 (by decide +kernel) (by omega) (fun c26 => ?_) (fun c26 => by exfalso; omega)
          refine z_iload_n F dX12_isWord_82 rfl (q := 2) rfl ?_
          exact hret _ _ 83 _ ⟨by omega, by omega⟩ ⟨hI, hW⟩ ⟨⟨by omega, by omega⟩, rfl, (by omega)⟩ dX12_isWord_83
      · refine z_iconst F dX12_isWord_31 ?_
        refine z_goto (tgt := 36) F dX12_isWord_32 (by decide +kernel) ?_
        refine z_istore_n F dX12_isWord_36 rfl (by decide) (ls' := [(2, ii 1), (0, .ref (ad 131)), (1, .ref (ad 1063))]) rfl ?_
        refine z_iconst F dX12_isWord_37 ?_
        refine z_istore_n F dX12_isWord_38 rfl (by decide) (ls' := [(3, ii 0), (2, ii 1), (0, .ref (ad 131)), (1, .ref (ad 1063))]) rfl ?_
        refine z_loc [2, 3, 1, 0] (ls' := [(0, .ref (ad 131)), (1, .ref (ad 1063)), (2, ii 1), (3, ii 0)]) rfl ?_
        suffices key39 : ∀ (n : Nat) (y28 : Int) (y29 : Int), 0 ≤ y28 → y28 ≤ 1 → 0 ≤ y29 → y29 ≤ 4 → (y28 = 1 → M 131 12 = 0 ∧ M 131 10 = 1 ∧ M 131 8 - M 131 9 = 4) → 4 - y29 < (n : Int) → Z D cy ad p l e (RMh 5) s m args below meth c A 4 0 0 Q 39 [(0, .ref (ad 131)), (1, .ref (ad 1063)), (2, ii y28), (3, ii y29)] [] M from key39 5 1 0 (by omega) (by omega) (by omega) (by omega) (by omega) (by omega)
        intro n39
        induction n39 with
        | zero => intro y28 y29 ay28 by28 ay29 by29 i39_0 hn39; exfalso; omega
        | succ n39 ih39 =>
          intro y28 y29 ay28 by28 ay29 by29 i39_0 hn39
          refine z_iload_n F dX12_isWord_39 rfl (q := 2) rfl ?_
          refine z_if_eq (tgt := 82) F dX12_isWord_40 (by decide +kernel) (by omega) (fun c30 => ?_) (fun c30 => ?_)
          · refine z_iload_n F dX12_isWord_82 rfl (q := 2) rfl ?_
            exact hret _ _ 83 _ ⟨by omega, by omega⟩ ⟨hI, hW⟩ ⟨⟨by omega, by omega⟩, rfl, (by omega)⟩ dX12_isWord_83
          · refine z_iload_n F dX12_isWord_43 rfl (q := 3) rfl ?_
            refine z_aload_n F dX12_isWord_44 rfl (q := 1) rfl ?_
            refine zvs_i (i := 63) (rest := [ii y29]) F (kS_len l M ⟨hI, hW⟩ 63 (by decide)) cs_X12_114 (by decide) (by decide) (by decide) rfl rfl rfl (Nat.le_of_ble_eq_true rfl) dX12_isWord_45 (fun v31 M9 rv31 hI9 pv31 => ?_)
            obtain ⟨ev31, rfl⟩ := pv31
            obtain rfl : v31 = 4 := ev31.trans (show ((sbyt.getD 63 []).length : Int) = 4 from by decide)
            clear hI9
            refine z_icmp_ge (tgt := 82) F dX12_isWord_48 (by decide +kernel) (by omega) (by omega) (fun c32 => ?_) (fun c32 => ?_)
            · refine z_iload_n F dX12_isWord_82 rfl (q := 2) rfl ?_
              exact hret _ _ 83 _ ⟨by omega, by omega⟩ ⟨hI, hW⟩ ⟨⟨by omega, by omega⟩, rfl, (by omega)⟩ dX12_isWord_83
            · refine z_aload_n F dX12_isWord_51 rfl (q := 0) rfl ?_
              refine rf_X12_23 F gs_131 rfl dX12_isWord_52 ?_
              refine z_aload_n F dX12_isWord_55 rfl (q := 0) rfl ?_
              refine gf_X12_85 F hI gs_131 rfl bd_131_9 dX12_isWord_56 (fun v33 ev33 av33 bv33 => ?_)
              have zv33 : u3 = v33 := eu3.trans ev33.symm
              subst zv33
              refine z_iload_n F dX12_isWord_59 rfl (q := 3) rfl ?_
              refine z_iadd F dX12_isWord_60 ?_
              have k34 : 0 ≤ (u3 + y29) ∧ (u3 + y29) ≤ 899 := by omega
              refine z_iald F hI gs_136 (by omega) (by omega) (by decide) bd_136 dX12_isWord_61 (fun v35 (ev35 : v35 = M 136 _) av35 bv35 => ?_)
              refine z_aload_n F dX12_isWord_62 rfl (q := 1) rfl ?_
              refine z_iload_n F dX12_isWord_63 rfl (q := 3) rfl ?_
              refine zvs_i (i := 63) (rest := [ii v35]) F (kS_chr l M ⟨hI, hW⟩ 63 (by decide) y29 (by omega) (show y29 < ((sbyt.getD 63 []).length : Int) from by rw [show ((sbyt.getD 63 []).length : Int) = 4 from by decide]; omega)) cs_X12_119 (by decide) (by decide) (by decide) rfl rfl rfl (Nat.le_of_ble_eq_true rfl) dX12_isWord_64 (fun v36 M9 rv36 hI9 pv36 => ?_)
              obtain ⟨⟨av36, bv36⟩, rfl⟩ := pv36
              clear hI9
              refine z_icmp_ne (tgt := 74) F dX12_isWord_67 (by decide +kernel) (by omega) (by omega) (fun c37 => ?_) (fun c37 => ?_)
              · refine z_iconst F dX12_isWord_74 ?_
                refine z_istore_n F dX12_isWord_75 rfl (by decide) (ls' := [(2, ii 0), (0, .ref (ad 131)), (1, .ref (ad 1063)), (3, ii y29)]) rfl ?_
                refine z_iincN F dX12_isWord_76 (q := 3) rfl (by decide) (fun v38 ev38 => ?_)
                refine z_eq (ls' := [(3, ii v38), (2, ii 0), (0, .ref (ad 131)), (1, .ref (ad 1063))]) rfl rfl rfl ?_
                refine z_goto (tgt := 39) F dX12_isWord_79 (by decide +kernel) ?_
                refine z_loc [2, 3, 1, 0] (ls' := [(0, .ref (ad 131)), (1, .ref (ad 1063)), (2, ii 0), (3, ii v38)]) rfl ?_
                exact ih39 0 v38 (by omega) (by omega) (by omega) (by omega) (by omega) (by omega)
              · refine z_iconst F dX12_isWord_70 ?_
                refine z_goto (tgt := 75) F dX12_isWord_71 (by decide +kernel) ?_
                refine z_istore_n F dX12_isWord_75 rfl (by decide) (ls' := [(2, ii 1), (0, .ref (ad 131)), (1, .ref (ad 1063)), (3, ii y29)]) rfl ?_
                refine z_iincN F dX12_isWord_76 (q := 3) rfl (by decide) (fun v39 ev39 => ?_)
                refine z_eq (ls' := [(3, ii v39), (2, ii 1), (0, .ref (ad 131)), (1, .ref (ad 1063))]) rfl rfl rfl ?_
                refine z_goto (tgt := 39) F dX12_isWord_79 (by decide +kernel) ?_
                refine z_loc [2, 3, 1, 0] (ls' := [(0, .ref (ad 131)), (1, .ref (ad 1063)), (2, ii 1), (3, ii v39)]) rfl ?_
                exact ih39 1 v39 (by omega) (by omega) (by omega) (by omega) (by omega) (by omega)
set_option maxHeartbeats 4000000 in
set_option maxRecDepth 4000 in
theorem kp_X12_took_131_1063 (l : Launch) (M : Mem) (hJ : Iw M) (hp0 : 0 ≤ M 131 9 ∧ M 131 9 ≤ M 131 8 ∧ M 131 8 ≤ M 131 7 ∧ M 131 7 ≤ 900 ∧ (M 131 10 = 0 ∨ M 131 9 < M 131 8)) : CI l yX12_took cX12_took 3 (some .boolean) 6 (fun ad => [.ref (ad 131), .ref (ad 1063)]) M (fun z M' => (0 ≤ z ∧ z ≤ 1) ∧ Fr [131] M M' ∧ (M' 131 7 = M 131 7 ∧ M' 131 16 = M 131 16 ∧ M 131 9 ≤ M' 131 9 ∧ 0 ≤ M' 131 9 ∧ M' 131 9 ≤ M' 131 8 ∧ M' 131 8 ≤ M' 131 7 ∧ M' 131 7 ≤ 900 ∧ (M' 131 10 = 0 ∨ M' 131 9 < M' 131 8) ∧ M' 131 12 = M 131 12 ∧ (z = 1 → M 131 12 = 0 ∧ M 131 9 < M' 131 9))) := by
  obtain ⟨hI, hW⟩ := hJ
  have hF : Fr [131] M M := Fr.rf
  refine en_z (by decide +kernel) (fun ad => by exact Nat.le_of_ble_eq_true rfl) (fun D cy ad A p e s m args below meth c Q F hret => ?_)
  refine z_eq (ls' := [(0, .ref (ad 131)), (1, .ref (ad 1063))]) rfl rfl rfl ?_
  refine z_aload_n F dX12_took_0 rfl (q := 0) rfl ?_
  refine z_aload_n F dX12_took_1 rfl (q := 1) rfl ?_
  refine zv_i (rest := []) F (kp_X12_isWord_131_1063 l M ⟨hI, hW⟩ (by omega)) cs_X12_123 (T := TX12) (N := 44) (ci := 12) rfl gs_131 (by decide) (by decide) rfl rfl rfl (Nat.le_of_ble_eq_true rfl) dX12_took_2 (fun v1 M2 rv1 hI p3 => ?_)
  obtain ⟨hI, hW⟩ := hI
  obtain ⟨⟨av1, bv1⟩, rfl, xp3⟩ := p3
  refine z_istore_n F dX12_took_5 rfl (by decide) (ls' := [(2, ii v1), (0, .ref (ad 131)), (1, .ref (ad 1063))]) rfl ?_
  refine z_iload_n F dX12_took_6 rfl (q := 0) rfl ?_
  refine z_if_eq (tgt := 14) F dX12_took_7 (by decide +kernel) (by omega) (fun c4 => ?_) (fun c4 => ?_)
  · refine z_iload_n F dX12_took_14 rfl (q := 0) rfl ?_
    exact hret _ _ 15 _ ⟨by omega, by omega⟩ ⟨hI, hW⟩ ⟨⟨by omega, by omega⟩, hF, (by omega)⟩ dX12_took_15
  · refine z_aload_n F dX12_took_10 rfl (q := 1) rfl ?_
    refine zv_v (rest := []) F (kp_X12_readsOn l M ⟨hI, hW⟩ (by omega)) cs_X12_127 (T := TX12) (N := 44) (ci := 12) rfl gs_131 (by decide) (by decide) rfl rfl rfl (Nat.le_of_ble_eq_true rfl) dX12_took_11 (fun M5 hI p6 => ?_)
    obtain ⟨hI, hW⟩ := hI
    obtain ⟨fp6, xp6⟩ := p6
    have hF := hF.call fp6 (by decide)
    have tM5_133_6 : M5 133 6 = M 133 6 := fp6.at (by decide)
    have tM5_133_1 : M5 133 1 = M 133 1 := fp6.at (by decide)
    refine z_iload_n F dX12_took_14 rfl (q := 0) rfl ?_
    exact hret _ _ 15 _ ⟨by omega, by omega⟩ ⟨hI, hW⟩ ⟨⟨by omega, by omega⟩, hF, (by omega)⟩ dX12_took_15
set_option maxHeartbeats 4000000 in
set_option maxRecDepth 4000 in
theorem kp_X12_isWord_131_1062 (l : Launch) (M : Mem) (hJ : Iw M) (hp0 : 0 ≤ M 131 9 ∧ M 131 9 ≤ M 131 8 ∧ M 131 8 ≤ M 131 7 ∧ M 131 7 ≤ 900 ∧ (M 131 10 = 0 ∨ M 131 9 < M 131 8)) : CI l yX12_isWord cX12_isWord 4 (some .boolean) 5 (fun ad => [.ref (ad 131), .ref (ad 1062)]) M (fun z M' => (0 ≤ z ∧ z ≤ 1) ∧ M = M' ∧ (z = 1 → M 131 12 = 0 ∧ M 131 10 = 1)) := by
  obtain ⟨hI, hW⟩ := hJ
  refine en_z (by decide +kernel) (fun ad => by exact Nat.le_of_ble_eq_true rfl) (fun D cy ad A p e s m args below meth c Q F hret => ?_)
  refine z_eq (ls' := [(0, .ref (ad 131)), (1, .ref (ad 1062))]) rfl rfl rfl ?_
  obtain ⟨u1, eu1⟩ : ∃ v : Int, v = M 131 7 := ⟨_, rfl⟩
  have ku1 : 0 ≤ u1 ∧ u1 ≤ 900 := by have := hI.at (show Bd 131 7 = (0, 900) from rfl); omega
  obtain ⟨u2, eu2⟩ : ∃ v : Int, v = M 131 8 := ⟨_, rfl⟩
  have ku2 : 0 ≤ u2 ∧ u2 ≤ 900 := by have := hI.at (show Bd 131 8 = (0, 900) from rfl); omega
  obtain ⟨u3, eu3⟩ : ∃ v : Int, v = M 131 9 := ⟨_, rfl⟩
  have ku3 : 0 ≤ u3 ∧ u3 ≤ 900 := by have := hI.at (show Bd 131 9 = (0, 900) from rfl); omega
  obtain ⟨u4, eu4⟩ : ∃ v : Int, v = M 131 10 := ⟨_, rfl⟩
  have ku4 : (-2147483648) ≤ u4 ∧ u4 ≤ 2147483647 := by have := hI.at (show Bd 131 10 = (-2147483648, 2147483647) from rfl); omega
  obtain ⟨u5, eu5⟩ : ∃ v : Int, v = M 131 12 := ⟨_, rfl⟩
  have ku5 : 0 ≤ u5 ∧ u5 ≤ 4 := by have := hI.at (show Bd 131 12 = (0, 4) from rfl); omega
  obtain ⟨u6, eu6⟩ : ∃ v : Int, v = M 131 16 := ⟨_, rfl⟩
  have ku6 : (-2147483648) ≤ u6 ∧ u6 ≤ 2147483647 := by have := hI.at (show Bd 131 16 = (-2147483648, 2147483647) from rfl); omega
  refine z_aload_n F dX12_isWord_0 rfl (q := 0) rfl ?_
  refine gf_X12_108 F hI gs_131 rfl bd_131_12 dX12_isWord_1 (fun v7 ev7 av7 bv7 => ?_)
  have zv7 : u5 = v7 := eu5.trans ev7.symm
  subst zv7
  refine z_if_ne (tgt := 35) F dX12_isWord_4 (by decide +kernel) (by omega) (fun c8 => ?_) (fun c8 => ?_)
  · refine z_iconst F dX12_isWord_35 ?_
    refine z_istore_n F dX12_isWord_36 rfl (by decide) (ls' := [(2, ii 0), (0, .ref (ad 131)), (1, .ref (ad 1062))]) rfl ?_
    refine z_iconst F dX12_isWord_37 ?_
    refine z_istore_n F dX12_isWord_38 rfl (by decide) (ls' := [(3, ii 0), (2, ii 0), (0, .ref (ad 131)), (1, .ref (ad 1062))]) rfl ?_
    refine z_loc [2, 3, 1, 0] (ls' := [(0, .ref (ad 131)), (1, .ref (ad 1062)), (2, ii 0), (3, ii 0)]) rfl ?_
    suffices key39 : ∀ (n : Nat) (y10 : Int) (y11 : Int), 0 ≤ y10 → y10 ≤ 0 → 0 ≤ y11 → y11 ≤ 0 → (y10 = 1 → M 131 12 = 0 ∧ M 131 10 = 1 ∧ M 131 8 - M 131 9 = 4) → 0 < (n : Int) → Z D cy ad p l e (RMh 5) s m args below meth c A 4 0 0 Q 39 [(0, .ref (ad 131)), (1, .ref (ad 1062)), (2, ii y10), (3, ii y11)] [] M from key39 1 0 0 (by omega) (by omega) (by omega) (by omega) (by omega) (by omega)
    intro n39
    induction n39 with
    | zero => intro y10 y11 ay10 by10 ay11 by11 i39_0 hn39; exfalso; omega
    | succ n39 ih39 =>
      intro y10 y11 ay10 by10 ay11 by11 i39_0 hn39
      refine z_iload_n F dX12_isWord_39 rfl (q := 2) rfl ?_
      refine z_if_eq (tgt := 82) F dX12_isWord_40 (by decide +kernel) (by omega) (fun c12 => ?_) (fun c12 => by exfalso; omega)
      refine z_iload_n F dX12_isWord_82 rfl (q := 2) rfl ?_
      exact hret _ _ 83 _ ⟨by omega, by omega⟩ ⟨hI, hW⟩ ⟨⟨by omega, by omega⟩, rfl, (by omega)⟩ dX12_isWord_83
  · refine z_aload_n F dX12_isWord_7 rfl (q := 0) rfl ?_
    refine gf_X12_88 F hI gs_131 rfl bd_131_10 dX12_isWord_8 (fun v13 ev13 av13 bv13 => ?_)
    have zv13 : u4 = v13 := eu4.trans ev13.symm
    subst zv13
    refine z_iconst F dX12_isWord_11 ?_
    refine z_icmp_ne (tgt := 35) F dX12_isWord_12 (by decide +kernel) (by omega) (by omega) (fun c14 => ?_) (fun c14 => ?_)
    · refine z_iconst F dX12_isWord_35 ?_
      refine z_istore_n F dX12_isWord_36 rfl (by decide) (ls' := [(2, ii 0), (0, .ref (ad 131)), (1, .ref (ad 1062))]) rfl ?_
      refine z_iconst F dX12_isWord_37 ?_
      refine z_istore_n F dX12_isWord_38 rfl (by decide) (ls' := [(3, ii 0), (2, ii 0), (0, .ref (ad 131)), (1, .ref (ad 1062))]) rfl ?_
      refine z_loc [2, 3, 1, 0] (ls' := [(0, .ref (ad 131)), (1, .ref (ad 1062)), (2, ii 0), (3, ii 0)]) rfl ?_
      suffices key39 : ∀ (n : Nat) (y16 : Int) (y17 : Int), 0 ≤ y16 → y16 ≤ 0 → 0 ≤ y17 → y17 ≤ 0 → (y16 = 1 → M 131 12 = 0 ∧ M 131 10 = 1 ∧ M 131 8 - M 131 9 = 4) → 0 < (n : Int) → Z D cy ad p l e (RMh 5) s m args below meth c A 4 0 0 Q 39 [(0, .ref (ad 131)), (1, .ref (ad 1062)), (2, ii y16), (3, ii y17)] [] M from key39 1 0 0 (by omega) (by omega) (by omega) (by omega) (by omega) (by omega)
      intro n39
      induction n39 with
      | zero => intro y16 y17 ay16 by16 ay17 by17 i39_0 hn39; exfalso; omega
      | succ n39 ih39 =>
        intro y16 y17 ay16 by16 ay17 by17 i39_0 hn39
        refine z_iload_n F dX12_isWord_39 rfl (q := 2) rfl ?_
        refine z_if_eq (tgt := 82) F dX12_isWord_40 (by decide +kernel) (by omega) (fun c18 => ?_) (fun c18 => by exfalso; omega)
        refine z_iload_n F dX12_isWord_82 rfl (q := 2) rfl ?_
        exact hret _ _ 83 _ ⟨by omega, by omega⟩ ⟨hI, hW⟩ ⟨⟨by omega, by omega⟩, rfl, (by omega)⟩ dX12_isWord_83
    · refine z_aload_n F dX12_isWord_15 rfl (q := 0) rfl ?_
      refine gf_X12_82 F hI gs_131 rfl bd_131_8 dX12_isWord_16 (fun v19 ev19 av19 bv19 => ?_)
      have zv19 : u2 = v19 := eu2.trans ev19.symm
      subst zv19
      refine z_aload_n F dX12_isWord_19 rfl (q := 0) rfl ?_
      refine gf_X12_85 F hI gs_131 rfl bd_131_9 dX12_isWord_20 (fun v20 ev20 av20 bv20 => ?_)
      have zv20 : u3 = v20 := eu3.trans ev20.symm
      subst zv20
      refine z_isub F dX12_isWord_23 ?_
      refine z_aload_n F dX12_isWord_24 rfl (q := 1) rfl ?_
      refine zvs_i (i := 62) (rest := [ii (u2 - u3)]) F (kS_len l M ⟨hI, hW⟩ 62 (by decide)) cs_X12_114 (by decide) (by decide) (by decide) rfl rfl rfl (Nat.le_of_ble_eq_true rfl) dX12_isWord_25 (fun v21 M9 rv21 hI9 pv21 => ?_)
      obtain ⟨ev21, rfl⟩ := pv21
      obtain rfl : v21 = 4 := ev21.trans (show ((sbyt.getD 62 []).length : Int) = 4 from by decide)
      clear hI9
      refine z_icmp_ne (tgt := 35) F dX12_isWord_28 (by decide +kernel) (by omega) (by omega) (fun c22 => ?_) (fun c22 => ?_)
      · refine z_iconst F dX12_isWord_35 ?_
        refine z_istore_n F dX12_isWord_36 rfl (by decide) (ls' := [(2, ii 0), (0, .ref (ad 131)), (1, .ref (ad 1062))]) rfl ?_
        refine z_iconst F dX12_isWord_37 ?_
        refine z_istore_n F dX12_isWord_38 rfl (by decide) (ls' := [(3, ii 0), (2, ii 0), (0, .ref (ad 131)), (1, .ref (ad 1062))]) rfl ?_
        refine z_loc [2, 3, 1, 0] (ls' := [(0, .ref (ad 131)), (1, .ref (ad 1062)), (2, ii 0), (3, ii 0)]) rfl ?_
        suffices key39 : ∀ (n : Nat) (y24 : Int) (y25 : Int), 0 ≤ y24 → y24 ≤ 0 → 0 ≤ y25 → y25 ≤ 0 → (y24 = 1 → M 131 12 = 0 ∧ M 131 10 = 1 ∧ M 131 8 - M 131 9 = 4) → 0 < (n : Int) → Z D cy ad p l e (RMh 5) s m args below meth c A 4 0 0 Q 39 [(0, .ref (ad 131)), (1, .ref (ad 1062)), (2, ii y24), (3, ii y25)] [] M from key39 1 0 0 (by omega) (by omega) (by omega) (by omega) (by omega) (by omega)
        intro n39
        induction n39 with
        | zero => intro y24 y25 ay24 by24 ay25 by25 i39_0 hn39; exfalso; omega
        | succ n39 ih39 =>
          intro y24 y25 ay24 by24 ay25 by25 i39_0 hn39
          refine z_iload_n F dX12_isWord_39 rfl (q := 2) rfl ?_
          refine z_if_eq (tgt := 82) F dX12_isWord_40 (by decide +kernel) (by omega) (fun c26 => ?_) (fun c26 => by exfalso; omega)
          refine z_iload_n F dX12_isWord_82 rfl (q := 2) rfl ?_
          exact hret _ _ 83 _ ⟨by omega, by omega⟩ ⟨hI, hW⟩ ⟨⟨by omega, by omega⟩, rfl, (by omega)⟩ dX12_isWord_83
      · refine z_iconst F dX12_isWord_31 ?_
        refine z_goto (tgt := 36) F dX12_isWord_32 (by decide +kernel) ?_
        refine z_istore_n F dX12_isWord_36 rfl (by decide) (ls' := [(2, ii 1), (0, .ref (ad 131)), (1, .ref (ad 1062))]) rfl ?_
        refine z_iconst F dX12_isWord_37 ?_
        refine z_istore_n F dX12_isWord_38 rfl (by decide) (ls' := [(3, ii 0), (2, ii 1), (0, .ref (ad 131)), (1, .ref (ad 1062))]) rfl ?_
        refine z_loc [2, 3, 1, 0] (ls' := [(0, .ref (ad 131)), (1, .ref (ad 1062)), (2, ii 1), (3, ii 0)]) rfl ?_
        suffices key39 : ∀ (n : Nat) (y28 : Int) (y29 : Int), 0 ≤ y28 → y28 ≤ 1 → 0 ≤ y29 → y29 ≤ 4 → (y28 = 1 → M 131 12 = 0 ∧ M 131 10 = 1 ∧ M 131 8 - M 131 9 = 4) → 4 - y29 < (n : Int) → Z D cy ad p l e (RMh 5) s m args below meth c A 4 0 0 Q 39 [(0, .ref (ad 131)), (1, .ref (ad 1062)), (2, ii y28), (3, ii y29)] [] M from key39 5 1 0 (by omega) (by omega) (by omega) (by omega) (by omega) (by omega)
        intro n39
        induction n39 with
        | zero => intro y28 y29 ay28 by28 ay29 by29 i39_0 hn39; exfalso; omega
        | succ n39 ih39 =>
          intro y28 y29 ay28 by28 ay29 by29 i39_0 hn39
          refine z_iload_n F dX12_isWord_39 rfl (q := 2) rfl ?_
          refine z_if_eq (tgt := 82) F dX12_isWord_40 (by decide +kernel) (by omega) (fun c30 => ?_) (fun c30 => ?_)
          · refine z_iload_n F dX12_isWord_82 rfl (q := 2) rfl ?_
            exact hret _ _ 83 _ ⟨by omega, by omega⟩ ⟨hI, hW⟩ ⟨⟨by omega, by omega⟩, rfl, (by omega)⟩ dX12_isWord_83
          · refine z_iload_n F dX12_isWord_43 rfl (q := 3) rfl ?_
            refine z_aload_n F dX12_isWord_44 rfl (q := 1) rfl ?_
            refine zvs_i (i := 62) (rest := [ii y29]) F (kS_len l M ⟨hI, hW⟩ 62 (by decide)) cs_X12_114 (by decide) (by decide) (by decide) rfl rfl rfl (Nat.le_of_ble_eq_true rfl) dX12_isWord_45 (fun v31 M9 rv31 hI9 pv31 => ?_)
            obtain ⟨ev31, rfl⟩ := pv31
            obtain rfl : v31 = 4 := ev31.trans (show ((sbyt.getD 62 []).length : Int) = 4 from by decide)
            clear hI9
            refine z_icmp_ge (tgt := 82) F dX12_isWord_48 (by decide +kernel) (by omega) (by omega) (fun c32 => ?_) (fun c32 => ?_)
            · refine z_iload_n F dX12_isWord_82 rfl (q := 2) rfl ?_
              exact hret _ _ 83 _ ⟨by omega, by omega⟩ ⟨hI, hW⟩ ⟨⟨by omega, by omega⟩, rfl, (by omega)⟩ dX12_isWord_83
            · refine z_aload_n F dX12_isWord_51 rfl (q := 0) rfl ?_
              refine rf_X12_23 F gs_131 rfl dX12_isWord_52 ?_
              refine z_aload_n F dX12_isWord_55 rfl (q := 0) rfl ?_
              refine gf_X12_85 F hI gs_131 rfl bd_131_9 dX12_isWord_56 (fun v33 ev33 av33 bv33 => ?_)
              have zv33 : u3 = v33 := eu3.trans ev33.symm
              subst zv33
              refine z_iload_n F dX12_isWord_59 rfl (q := 3) rfl ?_
              refine z_iadd F dX12_isWord_60 ?_
              have k34 : 0 ≤ (u3 + y29) ∧ (u3 + y29) ≤ 899 := by omega
              refine z_iald F hI gs_136 (by omega) (by omega) (by decide) bd_136 dX12_isWord_61 (fun v35 (ev35 : v35 = M 136 _) av35 bv35 => ?_)
              refine z_aload_n F dX12_isWord_62 rfl (q := 1) rfl ?_
              refine z_iload_n F dX12_isWord_63 rfl (q := 3) rfl ?_
              refine zvs_i (i := 62) (rest := [ii v35]) F (kS_chr l M ⟨hI, hW⟩ 62 (by decide) y29 (by omega) (show y29 < ((sbyt.getD 62 []).length : Int) from by rw [show ((sbyt.getD 62 []).length : Int) = 4 from by decide]; omega)) cs_X12_119 (by decide) (by decide) (by decide) rfl rfl rfl (Nat.le_of_ble_eq_true rfl) dX12_isWord_64 (fun v36 M9 rv36 hI9 pv36 => ?_)
              obtain ⟨⟨av36, bv36⟩, rfl⟩ := pv36
              clear hI9
              refine z_icmp_ne (tgt := 74) F dX12_isWord_67 (by decide +kernel) (by omega) (by omega) (fun c37 => ?_) (fun c37 => ?_)
              · refine z_iconst F dX12_isWord_74 ?_
                refine z_istore_n F dX12_isWord_75 rfl (by decide) (ls' := [(2, ii 0), (0, .ref (ad 131)), (1, .ref (ad 1062)), (3, ii y29)]) rfl ?_
                refine z_iincN F dX12_isWord_76 (q := 3) rfl (by decide) (fun v38 ev38 => ?_)
                refine z_eq (ls' := [(3, ii v38), (2, ii 0), (0, .ref (ad 131)), (1, .ref (ad 1062))]) rfl rfl rfl ?_
                refine z_goto (tgt := 39) F dX12_isWord_79 (by decide +kernel) ?_
                refine z_loc [2, 3, 1, 0] (ls' := [(0, .ref (ad 131)), (1, .ref (ad 1062)), (2, ii 0), (3, ii v38)]) rfl ?_
                exact ih39 0 v38 (by omega) (by omega) (by omega) (by omega) (by omega) (by omega)
              · refine z_iconst F dX12_isWord_70 ?_
                refine z_goto (tgt := 75) F dX12_isWord_71 (by decide +kernel) ?_
                refine z_istore_n F dX12_isWord_75 rfl (by decide) (ls' := [(2, ii 1), (0, .ref (ad 131)), (1, .ref (ad 1062)), (3, ii y29)]) rfl ?_
                refine z_iincN F dX12_isWord_76 (q := 3) rfl (by decide) (fun v39 ev39 => ?_)
                refine z_eq (ls' := [(3, ii v39), (2, ii 1), (0, .ref (ad 131)), (1, .ref (ad 1062))]) rfl rfl rfl ?_
                refine z_goto (tgt := 39) F dX12_isWord_79 (by decide +kernel) ?_
                refine z_loc [2, 3, 1, 0] (ls' := [(0, .ref (ad 131)), (1, .ref (ad 1062)), (2, ii 1), (3, ii v39)]) rfl ?_
                exact ih39 1 v39 (by omega) (by omega) (by omega) (by omega) (by omega) (by omega)
set_option maxHeartbeats 4000000 in
set_option maxRecDepth 4000 in
theorem kp_X12_took_131_1062 (l : Launch) (M : Mem) (hJ : Iw M) (hp0 : 0 ≤ M 131 9 ∧ M 131 9 ≤ M 131 8 ∧ M 131 8 ≤ M 131 7 ∧ M 131 7 ≤ 900 ∧ (M 131 10 = 0 ∨ M 131 9 < M 131 8)) : CI l yX12_took cX12_took 3 (some .boolean) 6 (fun ad => [.ref (ad 131), .ref (ad 1062)]) M (fun z M' => (0 ≤ z ∧ z ≤ 1) ∧ Fr [131] M M' ∧ (M' 131 7 = M 131 7 ∧ M' 131 16 = M 131 16 ∧ M 131 9 ≤ M' 131 9 ∧ 0 ≤ M' 131 9 ∧ M' 131 9 ≤ M' 131 8 ∧ M' 131 8 ≤ M' 131 7 ∧ M' 131 7 ≤ 900 ∧ (M' 131 10 = 0 ∨ M' 131 9 < M' 131 8) ∧ M' 131 12 = M 131 12 ∧ (z = 1 → M 131 12 = 0 ∧ M 131 9 < M' 131 9))) := by
  obtain ⟨hI, hW⟩ := hJ
  have hF : Fr [131] M M := Fr.rf
  refine en_z (by decide +kernel) (fun ad => by exact Nat.le_of_ble_eq_true rfl) (fun D cy ad A p e s m args below meth c Q F hret => ?_)
  refine z_eq (ls' := [(0, .ref (ad 131)), (1, .ref (ad 1062))]) rfl rfl rfl ?_
  refine z_aload_n F dX12_took_0 rfl (q := 0) rfl ?_
  refine z_aload_n F dX12_took_1 rfl (q := 1) rfl ?_
  refine zv_i (rest := []) F (kp_X12_isWord_131_1062 l M ⟨hI, hW⟩ (by omega)) cs_X12_123 (T := TX12) (N := 44) (ci := 12) rfl gs_131 (by decide) (by decide) rfl rfl rfl (Nat.le_of_ble_eq_true rfl) dX12_took_2 (fun v1 M2 rv1 hI p3 => ?_)
  obtain ⟨hI, hW⟩ := hI
  obtain ⟨⟨av1, bv1⟩, rfl, xp3⟩ := p3
  refine z_istore_n F dX12_took_5 rfl (by decide) (ls' := [(2, ii v1), (0, .ref (ad 131)), (1, .ref (ad 1062))]) rfl ?_
  refine z_iload_n F dX12_took_6 rfl (q := 0) rfl ?_
  refine z_if_eq (tgt := 14) F dX12_took_7 (by decide +kernel) (by omega) (fun c4 => ?_) (fun c4 => ?_)
  · refine z_iload_n F dX12_took_14 rfl (q := 0) rfl ?_
    exact hret _ _ 15 _ ⟨by omega, by omega⟩ ⟨hI, hW⟩ ⟨⟨by omega, by omega⟩, hF, (by omega)⟩ dX12_took_15
  · refine z_aload_n F dX12_took_10 rfl (q := 1) rfl ?_
    refine zv_v (rest := []) F (kp_X12_readsOn l M ⟨hI, hW⟩ (by omega)) cs_X12_127 (T := TX12) (N := 44) (ci := 12) rfl gs_131 (by decide) (by decide) rfl rfl rfl (Nat.le_of_ble_eq_true rfl) dX12_took_11 (fun M5 hI p6 => ?_)
    obtain ⟨hI, hW⟩ := hI
    obtain ⟨fp6, xp6⟩ := p6
    have hF := hF.call fp6 (by decide)
    have tM5_133_6 : M5 133 6 = M 133 6 := fp6.at (by decide)
    have tM5_133_1 : M5 133 1 = M 133 1 := fp6.at (by decide)
    refine z_iload_n F dX12_took_14 rfl (q := 0) rfl ?_
    exact hret _ _ 15 _ ⟨by omega, by omega⟩ ⟨hI, hW⟩ ⟨⟨by omega, by omega⟩, hF, (by omega)⟩ dX12_took_15
set_option maxRecDepth 4000 in
theorem k_X12_thingAt_133 (l : Launch) (M : Mem) (hJ : Iw M) (x1 : Int) (hx1a : (-2147483648) ≤ x1) (hx1b : x1 ≤ 2147483647) : CI l yX12_thingAt cX12_thingAt 3 (some .int) 1 (fun ad => [.ref (ad 133), ii x1]) M (fun z M' => ((-1) ≤ z ∧ z ≤ 7) ∧ M = M') := by
  obtain ⟨hI, hW⟩ := hJ
  refine en_i (by decide +kernel) (fun ad => by exact Nat.le_of_ble_eq_true rfl) (fun D cy ad A p e s m args below meth c Q F hret => ?_)
  refine z_eq (ls' := [(0, .ref (ad 133)), (1, ii x1)]) rfl rfl rfl ?_
  refine z_iconst F dX12_thingAt_0 ?_
  refine z_istore_n F dX12_thingAt_1 rfl (by decide) (ls' := [(2, ii 0), (0, .ref (ad 133)), (1, ii x1)]) rfl ?_
  refine z_loc [1, 2, 0] (ls' := [(0, .ref (ad 133)), (1, ii x1), (2, ii 0)]) rfl ?_
  suffices key2 : ∀ (n : Nat) (y2 : Int), 0 ≤ y2 → y2 ≤ 8 → 8 - y2 < (n : Int) → Z D cy ad p l e (RMh 1) s m args below meth c A 3 0 0 Q 2 [(0, .ref (ad 133)), (1, ii x1), (2, ii y2)] [] M from key2 9 0 (by omega) (by omega) (by omega)
  intro n2
  induction n2 with
  | zero => intro y2 ay2 by2 hn2; exfalso; omega
  | succ n2 ih2 =>
    intro y2 ay2 by2 hn2
    refine z_iload_n F dX12_thingAt_2 rfl (q := 2) rfl ?_
    refine z_aload_n F dX12_thingAt_3 rfl (q := 0) rfl ?_
    refine z_iconst F dX12_thingAt_4 ?_
    refine z_iald F hI gs_133 (by omega) (by omega) (by decide) (show Bd 133 2 = (0, 8) from rfl) dX12_thingAt_5 (fun v3 (ev3 : v3 = M 133 2) av3 bv3 => ?_)
    refine z_icmp_ge (tgt := 27) F dX12_thingAt_6 (by decide +kernel) (by omega) (by omega) (fun c4 => ?_) (fun c4 => ?_)
    · refine z_iconst F dX12_thingAt_27 ?_
      exact hret _ _ 28 _ (by omega) ⟨hI, hW⟩ ⟨⟨by omega, by omega⟩, rfl⟩ dX12_thingAt_28
    · refine z_aload_n F dX12_thingAt_9 rfl (q := 0) rfl ?_
      refine z_bipush F dX12_thingAt_10 (by decide +kernel) ?_
      refine z_iload_n F dX12_thingAt_12 rfl (q := 2) rfl ?_
      refine z_iadd F dX12_thingAt_13 ?_
      refine z_iald F hI gs_133 (by omega) (by omega) (by decide) (bd_133.trans (kn_at (by omega) (by omega))) dX12_thingAt_14 (fun v5 (ev5 : v5 = M 133 _) av5 bv5 => ?_)
      refine z_iload_n F dX12_thingAt_15 rfl (q := 1) rfl ?_
      refine z_icmp_ne (tgt := 21) F dX12_thingAt_16 (by decide +kernel) (by omega) (by omega) (fun c6 => ?_) (fun c6 => ?_)
      · refine z_iincN F dX12_thingAt_21 (q := 2) rfl (by decide) (fun v7 ev7 => ?_)
        refine z_eq (ls' := [(2, ii v7), (0, .ref (ad 133)), (1, ii x1)]) rfl rfl rfl ?_
        refine z_goto (tgt := 2) F dX12_thingAt_24 (by decide +kernel) ?_
        refine z_loc [1, 2, 0] (ls' := [(0, .ref (ad 133)), (1, ii x1), (2, ii v7)]) rfl ?_
        exact ih2 v7 (by omega) (by omega) (by omega)
      · refine z_iload_n F dX12_thingAt_19 rfl (q := 2) rfl ?_
        exact hret _ _ 20 _ (by omega) ⟨hI, hW⟩ ⟨⟨by omega, by omega⟩, rfl⟩ dX12_thingAt_20
set_option maxHeartbeats 4000000 in
set_option maxRecDepth 4000 in
theorem kp_X12_readThing (l : Launch) (M : Mem) (hJ : Iw M) (hp0 : 0 ≤ M 131 9 ∧ M 131 9 ≤ M 131 8 ∧ M 131 8 ≤ M 131 7 ∧ M 131 7 ≤ 900 ∧ (M 131 10 = 0 ∨ M 131 9 < M 131 8)) (hp1 : M 133 6 ≤ M 131 9) (hp2 : Wl M) (hp3 : M 131 16 = 0) : CV l yX12_readThing cX12_readThing 7 none 8 (fun ad => [.ref (ad 131)]) M (fun M' => Fr [131, 133] M M' ∧ (Wl M' ∧ M' 131 7 = M 131 7 ∧ M' 131 16 = M 131 16 ∧ M 131 9 ≤ M' 131 9 ∧ 0 ≤ M' 131 9 ∧ M' 131 9 ≤ M' 131 8 ∧ M' 131 8 ≤ M' 131 7 ∧ M' 131 7 ≤ 900 ∧ (M' 131 10 = 0 ∨ M' 131 9 < M' 131 8) ∧ M' 133 6 = M 133 6 ∧ M' 133 1 = M 133 1 ∧ (M' 131 12 = 0 → M 131 12 = 0))) := by
  obtain ⟨hI, hW⟩ := hJ
  have hF : Fr [131, 133] M M := Fr.rf
  refine en_v (by decide +kernel) (fun ad => by exact Nat.le_of_ble_eq_true rfl) (fun D cy ad A p e s m args below meth c Q F hret => ?_)
  refine z_eq (ls' := [(0, .ref (ad 131))]) rfl rfl rfl ?_
  have hL := hp2
  obtain ⟨g1, g2, g3, g4, hT⟩ := hp0
  have hT : Tk M := hT
  have kbM : 0 ≤ M 131 12 ∧ M 131 12 ≤ 4 := hI.at (show Bd 131 12 = (0, 4) from rfl)
  refine z_aload_n F dX12_readThing_0 rfl (q := 0) rfl ?_
  refine z_iconst F dX12_readThing_1 ?_
  refine z_bipush F dX12_readThing_2 (by decide +kernel) ?_
  refine zv_i (rest := []) F (kp_X12_begins l M ⟨hI, hW⟩ 2 (by omega) (by omega) 8 (by omega) (by omega) ⟨by omega, by omega, by omega, by omega, hT⟩) cs_X12_203 (T := TX12) (N := 44) (ci := 12) rfl gs_131 (by decide) (by decide) rfl rfl rfl (Nat.le_of_ble_eq_true rfl) dX12_readThing_4 (fun v1 M2 rv1 hI p3 => ?_)
  obtain ⟨hI, hW⟩ := hI
  obtain ⟨⟨av1, bv1⟩, fp3, xp3⟩ := p3
  have hF := hF.call fp3 (by decide)
  have tM2_133_6 : M2 133 6 = M 133 6 := fp3.at (by decide)
  have tM2_133_1 : M2 133 1 = M 133 1 := fp3.at (by decide)
  have tM2_133_2 : M2 133 2 = M 133 2 := fp3.at (by decide)
  have tM2_133_4 : M2 133 4 = M 133 4 := fp3.at (by decide)
  have hq9 := wl_fr fp3 (by decide)
  have hL := hq9.2 hL
  have cM2 := hq9.1
  clear hq9
  have hbv1 : M 133 (2 : Int).toNat = M 133 2 := rfl
  obtain ⟨qp3_0, qp3_1, qp3_2, qp3_3, qp3_4, qp3_5, qp3_6, qp3_7, qp3_8, qp3_9⟩ := xp3
  have kbM2 : 0 ≤ M2 131 12 ∧ M2 131 12 ≤ 4 := hI.at (show Bd 131 12 = (0, 4) from rfl)
  have hT : Tk M2 := qp3_7
  clear qp3_7
  have lbqp3_9 : M 131 12 ≤ 4 * M2 131 12 := by omega
  clear qp3_9
  refine z_if_ne (tgt := 11) F dX12_readThing_7 (by decide +kernel) (by omega) (fun c4 => ?_) (fun c4 => ?_)
  · have cut39 : ∀ (M5 : Mem), Inv M5 → WFk M5 → Fr [131, 133] M M5 → (0 ≤ M5 131 9 ∧ M5 131 9 ≤ M5 131 8 ∧ M5 131 8 ≤ M5 131 7 ∧ M5 131 7 ≤ 900) → (M5 131 7 = M 131 7 ∧ M5 131 16 = M 131 16 ∧ M 131 9 ≤ M5 131 9 ∧ M5 133 6 = M 133 6 ∧ M5 133 1 = M 133 1 ∧ M5 133 2 = M 133 2 ∧ M5 133 4 = M 133 4 ∧ M 131 12 ≤ 4 * M5 131 12 ∧ 0 ≤ M5 131 12 ∧ M5 131 12 ≤ 4) → (Wl M5) → (Tk M5) → Z D cy ad p l e (RMh 8) s m args below meth c A 7 0 0 Q 39 [(0, .ref (ad 131))] [] M5 := by
      intro M5 hI hW hF j39_0 j39_1 j39_2 j39_3
      have hL := j39_2
      have hT := j39_3
      refine z_aload_n F dX12_readThing_39 rfl (q := 0) rfl ?_
      refine z_iconst F dX12_readThing_40 ?_
      refine z_aload_n F dX12_readThing_41 rfl (q := 0) rfl ?_
      refine rf_X12_13 F gs_131 rfl dX12_readThing_42 ?_
      refine z_iconst F dX12_readThing_45 ?_
      refine z_iald F hI gs_133 (by omega) (by omega) (by decide) (show Bd 133 1 = (0, 10) from rfl) dX12_readThing_46 (fun v6 (ev6 : v6 = M5 133 1) av6 bv6 => ?_)
      refine z_iconst F dX12_readThing_47 ?_
      refine z_isub F dX12_readThing_48 ?_
      refine zv_i (rest := []) F (kp_X12_number l M5 ⟨hI, hW⟩ 0 (by omega) (by omega) (v6 - 1) (by omega) (by omega) ⟨by omega, by omega, by omega, by omega, hT⟩) cs_X12_199 (T := TX12) (N := 44) (ci := 12) rfl gs_131 (by decide) (by decide) rfl rfl rfl (Nat.le_of_ble_eq_true rfl) dX12_readThing_49 (fun v7 M8 rv7 hI p9 => ?_)
      obtain ⟨hI, hW⟩ := hI
      obtain ⟨⟨av7, bv7⟩, fp9, xp9⟩ := p9
      have hF := hF.call fp9 (by decide)
      have tM8_133_6 : M8 133 6 = M5 133 6 := fp9.at (by decide)
      have tM8_133_1 : M8 133 1 = M5 133 1 := fp9.at (by decide)
      have tM8_133_2 : M8 133 2 = M5 133 2 := fp9.at (by decide)
      have tM8_133_4 : M8 133 4 = M5 133 4 := fp9.at (by decide)
      have hq9 := wl_fr fp9 (by decide)
      have hL := hq9.2 hL
      have cM8 := hq9.1
      clear hq9
      have hkv7 : 0 ≤ v7 ∧ v7 ≤ 9 := by omega
      obtain ⟨qp9_0, qp9_1, qp9_2, qp9_3, qp9_4, qp9_5, qp9_6, qp9_7, qp9_8, qp9_9⟩ := xp9
      have kbM8 : 0 ≤ M8 131 12 ∧ M8 131 12 ≤ 4 := hI.at (show Bd 131 12 = (0, 4) from rfl)
      have hT : Tk M8 := qp9_7
      clear qp9_7
      clear qp9_8
      have lbqp9_9 : M5 131 12 ≤ 4 * M8 131 12 := by omega
      have lpqp9_9 : M5 131 9 + 1 ≤ M8 131 9 + M8 131 12 := by omega
      clear qp9_9
      refine z_istore_n F dX12_readThing_52 rfl (by decide) (ls' := [(1, ii v7), (0, .ref (ad 131))]) rfl ?_
      refine z_aload_n F dX12_readThing_53 rfl (q := 1) rfl ?_
      refine z_ldcS (j := 61) F dX12_readThing_54 rfl rfl rfl ?_
      refine z_eq (st' := [.ref (ad 1061), .ref (ad 131)]) rfl rfl rfl ?_
      refine zv_v (rest := []) F (kp_X12_mustWord_131_1061 l M8 ⟨hI, hW⟩ ⟨by omega, by omega, by omega, by omega, hT⟩) cs_X12_215 (T := TX12) (N := 44) (ci := 12) rfl gs_131 (by decide) (by decide) rfl rfl rfl (Nat.le_of_ble_eq_true rfl) dX12_readThing_56 (fun M10 hI p11 => ?_)
      obtain ⟨hI, hW⟩ := hI
      obtain ⟨fp11, xp11⟩ := p11
      have hF := hF.call fp11 (by decide)
      have tM10_133_6 : M10 133 6 = M8 133 6 := fp11.at (by decide)
      have tM10_133_1 : M10 133 1 = M8 133 1 := fp11.at (by decide)
      have tM10_133_2 : M10 133 2 = M8 133 2 := fp11.at (by decide)
      have tM10_133_4 : M10 133 4 = M8 133 4 := fp11.at (by decide)
      have hq9 := wl_fr fp11 (by decide)
      have hL := hq9.2 hL
      have cM10 := hq9.1
      clear hq9
      obtain ⟨qp11_0, qp11_1, qp11_2, qp11_3, qp11_4, qp11_5, qp11_6, qp11_7, qp11_8⟩ := xp11
      have kbM10 : 0 ≤ M10 131 12 ∧ M10 131 12 ≤ 4 := hI.at (show Bd 131 12 = (0, 4) from rfl)
      have hT : Tk M10 := qp11_7
      clear qp11_7
      have lbqp11_8 : M8 131 12 ≤ 4 * M10 131 12 := by omega
      clear qp11_8
      refine z_aload_n F dX12_readThing_59 rfl (q := 1) rfl ?_
      refine z_iconst F dX12_readThing_60 ?_
      refine z_bipush F dX12_readThing_61 (by decide +kernel) ?_
      refine zv_i (rest := []) F (kp_X12_number l M10 ⟨hI, hW⟩ 0 (by omega) (by omega) 99 (by omega) (by omega) ⟨by omega, by omega, by omega, by omega, hT⟩) cs_X12_199 (T := TX12) (N := 44) (ci := 12) rfl gs_131 (by decide) (by decide) rfl rfl rfl (Nat.le_of_ble_eq_true rfl) dX12_readThing_63 (fun v12 M13 rv12 hI p14 => ?_)
      obtain ⟨hI, hW⟩ := hI
      obtain ⟨⟨av12, bv12⟩, fp14, xp14⟩ := p14
      have hF := hF.call fp14 (by decide)
      have tM13_133_6 : M13 133 6 = M10 133 6 := fp14.at (by decide)
      have tM13_133_1 : M13 133 1 = M10 133 1 := fp14.at (by decide)
      have tM13_133_2 : M13 133 2 = M10 133 2 := fp14.at (by decide)
      have tM13_133_4 : M13 133 4 = M10 133 4 := fp14.at (by decide)
      have hq9 := wl_fr fp14 (by decide)
      have hL := hq9.2 hL
      have cM13 := hq9.1
      clear hq9
      have hkv12 : 0 ≤ v12 ∧ v12 ≤ 99 := by omega
      obtain ⟨qp14_0, qp14_1, qp14_2, qp14_3, qp14_4, qp14_5, qp14_6, qp14_7, qp14_8, qp14_9⟩ := xp14
      have kbM13 : 0 ≤ M13 131 12 ∧ M13 131 12 ≤ 4 := hI.at (show Bd 131 12 = (0, 4) from rfl)
      have hT : Tk M13 := qp14_7
      clear qp14_7
      clear qp14_8
      have lbqp14_9 : M10 131 12 ≤ 4 * M13 131 12 := by omega
      have lpqp14_9 : M10 131 9 + 1 ≤ M13 131 9 + M13 131 12 := by omega
      clear qp14_9
      refine z_istore_n F dX12_readThing_66 rfl (by decide) (ls' := [(2, ii v12), (1, ii v7), (0, .ref (ad 131))]) rfl ?_
      have cut88 : ∀ (y16 : Int) (M15 : Mem), Inv M15 → WFk M15 → Fr [131, 133] M M15 → 0 ≤ y16 → y16 ≤ 9 → (0 ≤ M15 131 9 ∧ M15 131 9 ≤ M15 131 8 ∧ M15 131 8 ≤ M15 131 7 ∧ M15 131 7 ≤ 900) → (M15 131 7 = M 131 7 ∧ M15 131 16 = M 131 16 ∧ M 131 9 ≤ M15 131 9 ∧ M15 133 6 = M 133 6 ∧ M15 133 1 = M 133 1 ∧ M15 133 2 = M 133 2 ∧ M15 133 4 = M 133 4 ∧ M 131 12 ≤ 4 * M15 131 12 ∧ 0 ≤ M15 131 12 ∧ M15 131 12 ≤ 4) → (Wl M15) → (Tk M15) → Z D cy ad p l e (RMh 8) s m args below meth c A 7 0 0 Q 88 [(0, .ref (ad 131)), (1, ii v7), (2, ii v12), (3, ii y16)] [] M15 := by
        intro y16 M15 hI hW hF ay16 by16 j88_0 j88_1 j88_2 j88_3
        have hL := j88_2
        have hT := j88_3
        have cut110 : ∀ (y18 : Int) (M17 : Mem), Inv M17 → WFk M17 → Fr [131, 133] M M17 → 1 ≤ y18 → y18 ≤ 9 → (0 ≤ M17 131 9 ∧ M17 131 9 ≤ M17 131 8 ∧ M17 131 8 ≤ M17 131 7 ∧ M17 131 7 ≤ 900) → (M17 131 7 = M 131 7 ∧ M17 131 16 = M 131 16 ∧ M 131 9 ≤ M17 131 9 ∧ M17 133 6 = M 133 6 ∧ M17 133 1 = M 133 1 ∧ M17 133 2 = M 133 2 ∧ M17 133 4 = M 133 4 ∧ M 131 12 ≤ 4 * M17 131 12 ∧ 0 ≤ M17 131 12 ∧ M17 131 12 ≤ 4) → (Wl M17) → (Tk M17) → Z D cy ad p l e (RMh 8) s m args below meth c A 7 0 0 Q 110 [(0, .ref (ad 131)), (1, ii v7), (2, ii v12), (3, ii y16), (4, ii y18)] [] M17 := by
          intro y18 M17 hI hW hF ay18 by18 j110_0 j110_1 j110_2 j110_3
          have hL := j110_2
          have hT := j110_3
          refine z_aload_n F dX12_readThing_110 rfl (q := 0) rfl ?_
          refine z_ldcS (j := 64) F dX12_readThing_111 rfl rfl rfl ?_
          refine z_eq (st' := [.ref (ad 1064), .ref (ad 131)]) rfl rfl rfl ?_
          refine zv_i (rest := []) F (kp_X12_took_131_1064 l M17 ⟨hI, hW⟩ ⟨by omega, by omega, by omega, by omega, hT⟩) cs_X12_130 (T := TX12) (N := 44) (ci := 12) rfl gs_131 (by decide) (by decide) rfl rfl rfl (Nat.le_of_ble_eq_true rfl) dX12_readThing_113 (fun v19 M20 rv19 hI p21 => ?_)
          obtain ⟨hI, hW⟩ := hI
          obtain ⟨⟨av19, bv19⟩, fp21, xp21⟩ := p21
          have hF := hF.call fp21 (by decide)
          have tM20_133_6 : M20 133 6 = M17 133 6 := fp21.at (by decide)
          have tM20_133_1 : M20 133 1 = M17 133 1 := fp21.at (by decide)
          have tM20_133_2 : M20 133 2 = M17 133 2 := fp21.at (by decide)
          have tM20_133_4 : M20 133 4 = M17 133 4 := fp21.at (by decide)
          have hq9 := wl_fr fp21 (by decide)
          have hL := hq9.2 hL
          have cM20 := hq9.1
          clear hq9
          obtain ⟨qp21_0, qp21_1, qp21_2, qp21_3, qp21_4, qp21_5, qp21_6, qp21_7, qp21_8, qp21_9⟩ := xp21
          have kbM20 : 0 ≤ M20 131 12 ∧ M20 131 12 ≤ 4 := hI.at (show Bd 131 12 = (0, 4) from rfl)
          have hT : Tk M20 := qp21_7
          clear qp21_7
          have lzqp21_9 : M17 131 9 + v19 ≤ M20 131 9 := by omega
          clear qp21_9
          refine z_istore F dX12_readThing_116 (by decide) (ls' := [(5, ii v19), (0, .ref (ad 131)), (1, ii v7), (2, ii v12), (3, ii y16), (4, ii y18)]) rfl ?_
          refine z_aload_n F dX12_readThing_118 rfl (q := 1) rfl ?_
          refine gf_X12_108 F hI gs_131 rfl bd_131_12 dX12_readThing_119 (fun v22 ev22 av22 bv22 => ?_)
          refine z_if_eq (tgt := 126) F dX12_readThing_122 (by decide +kernel) (by omega) (fun c23 => ?_) (fun c23 => ?_)
          · refine z_aload_n F dX12_readThing_126 rfl (q := 1) rfl ?_
            refine rf_X12_13 F gs_131 rfl dX12_readThing_127 ?_
            refine z_iconst F dX12_readThing_130 ?_
            refine z_iald F hI gs_133 (by omega) (by omega) (by decide) (show Bd 133 2 = (0, 8) from rfl) dX12_readThing_131 (fun v24 (ev24 : v24 = M20 133 2) av24 bv24 => ?_)
            have k25 : 0 ≤ v24 ∧ v24 ≤ 7 := by omega
            refine z_istore F dX12_readThing_132 (by decide) (ls' := [(6, ii v24), (5, ii v19), (0, .ref (ad 131)), (1, ii v7), (2, ii v12), (3, ii y16), (4, ii y18)]) rfl ?_
            refine z_aload_n F dX12_readThing_134 rfl (q := 2) rfl ?_
            refine rf_X12_13 F gs_131 rfl dX12_readThing_135 ?_
            refine z_bipush F dX12_readThing_138 (by decide +kernel) ?_
            refine z_iload F dX12_readThing_140 (q := 0) rfl ?_
            refine z_iadd F dX12_readThing_142 ?_
            refine z_iload_n F dX12_readThing_143 rfl (q := 3) rfl ?_
            refine z_iast F hI gs_133 (by omega) (by omega) (by decide) (bd_133.trans (kn_at (by omega) (by omega))) dX12_readThing_144 (by omega) (by omega) (fun M27 hI sf26 f26 => ?_)
            have tM27_131_7 : M27 131 7 = M20 131 7 := f26 131 7 (fun q => absurd q.1 (by decide))
            have tM27_131_8 : M27 131 8 = M20 131 8 := f26 131 8 (fun q => absurd q.1 (by decide))
            have tM27_131_9 : M27 131 9 = M20 131 9 := f26 131 9 (fun q => absurd q.1 (by decide))
            have tM27_131_10 : M27 131 10 = M20 131 10 := f26 131 10 (fun q => absurd q.1 (by decide))
            have tM27_131_12 : M27 131 12 = M20 131 12 := f26 131 12 (fun q => absurd q.1 (by decide))
            have tM27_131_16 : M27 131 16 = M20 131 16 := f26 131 16 (fun q => absurd q.1 (by decide))
            have tM27_133_6 : M27 133 6 = M20 133 6 := f26 133 6 (fun q => by have := q.2; omega)
            have tM27_133_1 : M27 133 1 = M20 133 1 := f26 133 1 (fun q => by have := q.2; omega)
            have tM27_133_2 : M27 133 2 = M20 133 2 := f26 133 2 (fun q => by have := q.2; omega)
            have tM27_133_4 : M27 133 4 = M20 133 4 := f26 133 4 (fun q => by have := q.2; omega)
            have hT := tk_ws f26 (by decide) hT
            have hq9 := wl_wr f26 (by omega)
            have hL := hq9.2 hL
            have cM27 := hq9.1
            clear hq9
            have hF := hF.wr f26 (by decide) (by decide)
            have hW : WFk M27 := hW.site f26 (by decide)
            refine z_aload_n F dX12_readThing_145 rfl (q := 2) rfl ?_
            refine rf_X12_13 F gs_131 rfl dX12_readThing_146 ?_
            refine z_bipush F dX12_readThing_149 (by decide +kernel) ?_
            refine z_iload F dX12_readThing_151 (q := 0) rfl ?_
            refine z_iadd F dX12_readThing_153 ?_
            refine z_iload_n F dX12_readThing_154 rfl (q := 4) rfl ?_
            refine z_iast F hI gs_133 (by omega) (by omega) (by decide) (bd_133.trans (kn_any (by omega) (by omega))) dX12_readThing_155 (by omega) (by omega) (fun M29 hI sf28 f28 => ?_)
            have tM29_131_7 : M29 131 7 = M27 131 7 := f28 131 7 (fun q => absurd q.1 (by decide))
            have tM29_131_8 : M29 131 8 = M27 131 8 := f28 131 8 (fun q => absurd q.1 (by decide))
            have tM29_131_9 : M29 131 9 = M27 131 9 := f28 131 9 (fun q => absurd q.1 (by decide))
            have tM29_131_10 : M29 131 10 = M27 131 10 := f28 131 10 (fun q => absurd q.1 (by decide))
            have tM29_131_12 : M29 131 12 = M27 131 12 := f28 131 12 (fun q => absurd q.1 (by decide))
            have tM29_131_16 : M29 131 16 = M27 131 16 := f28 131 16 (fun q => absurd q.1 (by decide))
            have tM29_133_6 : M29 133 6 = M27 133 6 := f28 133 6 (fun q => by have := q.2; omega)
            have tM29_133_1 : M29 133 1 = M27 133 1 := f28 133 1 (fun q => by have := q.2; omega)
            have tM29_133_2 : M29 133 2 = M27 133 2 := f28 133 2 (fun q => by have := q.2; omega)
            have tM29_133_4 : M29 133 4 = M27 133 4 := f28 133 4 (fun q => by have := q.2; omega)
            have hT := tk_ws f28 (by decide) hT
            have hq9 := wl_wr f28 (by omega)
            have hL := hq9.2 hL
            have cM29 := hq9.1
            clear hq9
            have hF := hF.wr f28 (by decide) (by decide)
            have hW : WFk M29 := hW.site f28 (by decide)
            refine z_aload_n F dX12_readThing_156 rfl (q := 2) rfl ?_
            refine rf_X12_13 F gs_131 rfl dX12_readThing_157 ?_
            refine z_bipush F dX12_readThing_160 (by decide +kernel) ?_
            refine z_iload F dX12_readThing_162 (q := 0) rfl ?_
            refine z_iadd F dX12_readThing_164 ?_
            refine z_iload_n F dX12_readThing_165 rfl (q := 5) rfl ?_
            refine z_iast F hI gs_133 (by omega) (by omega) (by decide) (bd_133.trans (kn_any (by omega) (by omega))) dX12_readThing_166 (by omega) (by omega) (fun M31 hI sf30 f30 => ?_)
            have tM31_131_7 : M31 131 7 = M29 131 7 := f30 131 7 (fun q => absurd q.1 (by decide))
            have tM31_131_8 : M31 131 8 = M29 131 8 := f30 131 8 (fun q => absurd q.1 (by decide))
            have tM31_131_9 : M31 131 9 = M29 131 9 := f30 131 9 (fun q => absurd q.1 (by decide))
            have tM31_131_10 : M31 131 10 = M29 131 10 := f30 131 10 (fun q => absurd q.1 (by decide))
            have tM31_131_12 : M31 131 12 = M29 131 12 := f30 131 12 (fun q => absurd q.1 (by decide))
            have tM31_131_16 : M31 131 16 = M29 131 16 := f30 131 16 (fun q => absurd q.1 (by decide))
            have tM31_133_6 : M31 133 6 = M29 133 6 := f30 133 6 (fun q => by have := q.2; omega)
            have tM31_133_1 : M31 133 1 = M29 133 1 := f30 133 1 (fun q => by have := q.2; omega)
            have tM31_133_2 : M31 133 2 = M29 133 2 := f30 133 2 (fun q => by have := q.2; omega)
            have tM31_133_4 : M31 133 4 = M29 133 4 := f30 133 4 (fun q => by have := q.2; omega)
            have hT := tk_ws f30 (by decide) hT
            have hq9 := wl_wr f30 (by omega)
            have hL := hq9.2 hL
            have cM31 := hq9.1
            clear hq9
            have hF := hF.wr f30 (by decide) (by decide)
            have hW : WFk M31 := hW.site f30 (by decide)
            refine z_aload_n F dX12_readThing_167 rfl (q := 2) rfl ?_
            refine rf_X12_13 F gs_131 rfl dX12_readThing_168 ?_
            refine z_bipush F dX12_readThing_171 (by decide +kernel) ?_
            refine z_iload F dX12_readThing_173 (q := 0) rfl ?_
            refine z_iadd F dX12_readThing_175 ?_
            refine z_iload F dX12_readThing_176 (q := 6) rfl ?_
            refine z_iast F hI gs_133 (by omega) (by omega) (by decide) (bd_133.trans (kn_any (by omega) (by omega))) dX12_readThing_178 (by omega) (by omega) (fun M33 hI sf32 f32 => ?_)
            have tM33_131_7 : M33 131 7 = M31 131 7 := f32 131 7 (fun q => absurd q.1 (by decide))
            have tM33_131_8 : M33 131 8 = M31 131 8 := f32 131 8 (fun q => absurd q.1 (by decide))
            have tM33_131_9 : M33 131 9 = M31 131 9 := f32 131 9 (fun q => absurd q.1 (by decide))
            have tM33_131_10 : M33 131 10 = M31 131 10 := f32 131 10 (fun q => absurd q.1 (by decide))
            have tM33_131_12 : M33 131 12 = M31 131 12 := f32 131 12 (fun q => absurd q.1 (by decide))
            have tM33_131_16 : M33 131 16 = M31 131 16 := f32 131 16 (fun q => absurd q.1 (by decide))
            have tM33_133_6 : M33 133 6 = M31 133 6 := f32 133 6 (fun q => by have := q.2; omega)
            have tM33_133_1 : M33 133 1 = M31 133 1 := f32 133 1 (fun q => by have := q.2; omega)
            have tM33_133_2 : M33 133 2 = M31 133 2 := f32 133 2 (fun q => by have := q.2; omega)
            have tM33_133_4 : M33 133 4 = M31 133 4 := f32 133 4 (fun q => by have := q.2; omega)
            have hT := tk_ws f32 (by decide) hT
            have hq9 := wl_wr f32 (by omega)
            have hL := hq9.2 hL
            have cM33 := hq9.1
            clear hq9
            have hF := hF.wr f32 (by decide) (by decide)
            have hW : WFk M33 := hW.site f32 (by decide)
            refine z_aload_n F dX12_readThing_179 rfl (q := 2) rfl ?_
            refine rf_X12_13 F gs_131 rfl dX12_readThing_180 ?_
            refine z_bipush F dX12_readThing_183 (by decide +kernel) ?_
            refine z_iload F dX12_readThing_185 (q := 0) rfl ?_
            refine z_iadd F dX12_readThing_187 ?_
            refine z_iload F dX12_readThing_188 (q := 1) rfl ?_
            refine z_if_eq (tgt := 197) F dX12_readThing_190 (by decide +kernel) (by omega) (fun c34 => ?_) (fun c34 => ?_)
            · refine z_iconst F dX12_readThing_197 ?_
              refine z_iast F hI gs_133 (by omega) (by omega) (by decide) (bd_133.trans (kn_any (by omega) (by omega))) dX12_readThing_198 (by omega) (by omega) (fun M36 hI sf35 f35 => ?_)
              have tM36_131_7 : M36 131 7 = M33 131 7 := f35 131 7 (fun q => absurd q.1 (by decide))
              have tM36_131_8 : M36 131 8 = M33 131 8 := f35 131 8 (fun q => absurd q.1 (by decide))
              have tM36_131_9 : M36 131 9 = M33 131 9 := f35 131 9 (fun q => absurd q.1 (by decide))
              have tM36_131_10 : M36 131 10 = M33 131 10 := f35 131 10 (fun q => absurd q.1 (by decide))
              have tM36_131_12 : M36 131 12 = M33 131 12 := f35 131 12 (fun q => absurd q.1 (by decide))
              have tM36_131_16 : M36 131 16 = M33 131 16 := f35 131 16 (fun q => absurd q.1 (by decide))
              have tM36_133_6 : M36 133 6 = M33 133 6 := f35 133 6 (fun q => by have := q.2; omega)
              have tM36_133_1 : M36 133 1 = M33 133 1 := f35 133 1 (fun q => by have := q.2; omega)
              have tM36_133_2 : M36 133 2 = M33 133 2 := f35 133 2 (fun q => by have := q.2; omega)
              have tM36_133_4 : M36 133 4 = M33 133 4 := f35 133 4 (fun q => by have := q.2; omega)
              have hT := tk_ws f35 (by decide) hT
              have hq9 := wl_wr f35 (by omega)
              have hL := hq9.2 hL
              have cM36 := hq9.1
              clear hq9
              have hF := hF.wr f35 (by decide) (by decide)
              have hW : WFk M36 := hW.site f35 (by decide)
              refine z_aload_n F dX12_readThing_199 rfl (q := 2) rfl ?_
              refine rf_X12_13 F gs_131 rfl dX12_readThing_200 ?_
              refine z_iconst F dX12_readThing_203 ?_
              refine z_dup2 F dX12_readThing_204 rfl rfl ?_
              refine z_iald F hI gs_133 (by omega) (by omega) (by decide) (show Bd 133 2 = (0, 8) from rfl) dX12_readThing_205 (fun v37 (ev37 : v37 = M36 133 2) av37 bv37 => ?_)
              have q38 : v24 = M27 133 2 := ev24.trans (f26 133 2 (fun q => by omega)).symm
              have q39 : v24 = M29 133 2 := q38.trans (f28 133 2 (fun q => by omega)).symm
              have q40 : v24 = M31 133 2 := q39.trans (f30 133 2 (fun q => by omega)).symm
              have q41 : v24 = M33 133 2 := q40.trans (f32 133 2 (fun q => by omega)).symm
              have q42 : v24 = M36 133 2 := q41.trans (f35 133 2 (fun q => by omega)).symm
              have zv37 : v24 = v37 := q42.trans ev37.symm
              subst zv37
              refine z_iconst F dX12_readThing_206 ?_
              refine z_iadd F dX12_readThing_207 ?_
              refine z_nm (fun v44 ev44 => ?_)
              refine z_iast F hI gs_133 (by omega) (by omega) (by decide) (show Bd 133 2 = (0, 8) from rfl) dX12_readThing_208 (by omega) (by omega) (fun M45 hI sf43 f43 => ?_)
              have tM45_131_7 : M45 131 7 = M36 131 7 := f43 131 7 (fun q => absurd q.1 (by decide))
              have tM45_131_8 : M45 131 8 = M36 131 8 := f43 131 8 (fun q => absurd q.1 (by decide))
              have tM45_131_9 : M45 131 9 = M36 131 9 := f43 131 9 (fun q => absurd q.1 (by decide))
              have tM45_131_10 : M45 131 10 = M36 131 10 := f43 131 10 (fun q => absurd q.1 (by decide))
              have tM45_131_12 : M45 131 12 = M36 131 12 := f43 131 12 (fun q => absurd q.1 (by decide))
              have tM45_131_16 : M45 131 16 = M36 131 16 := f43 131 16 (fun q => absurd q.1 (by decide))
              have tM45_133_6 : M45 133 6 = M36 133 6 := f43 133 6 (fun q => absurd q.2 (by decide))
              have tM45_133_1 : M45 133 1 = M36 133 1 := f43 133 1 (fun q => absurd q.2 (by decide))
              have tM45_133_4 : M45 133 4 = M36 133 4 := f43 133 4 (fun q => absurd q.2 (by decide))
              have hT := tk_ws f43 (by decide) hT
              have hq9 := wl_wr f43 (by omega)
              have hL := hq9.2 hL
              have cM45 := hq9.1
              clear hq9
              have hF := hF.wr f43 (by decide) (by decide)
              have hW : WFk M45 := hW.site f43 (by decide)
              have sf43 : M45 133 2 = v44 := sf43
              exact hret _ 209 _ ⟨hI, hW⟩ ⟨hF, ⟨hL, by omega, by omega, by omega, by omega, by omega, by omega, by omega, hT, by omega, by omega, by omega⟩⟩ dX12_readThing_209
            · refine z_iconst F dX12_readThing_193 ?_
              refine z_goto (tgt := 198) F dX12_readThing_194 (by decide +kernel) ?_
              refine z_iast F hI gs_133 (by omega) (by omega) (by decide) (bd_133.trans (kn_any (by omega) (by omega))) dX12_readThing_198 (by omega) (by omega) (fun M47 hI sf46 f46 => ?_)
              have tM47_131_7 : M47 131 7 = M33 131 7 := f46 131 7 (fun q => absurd q.1 (by decide))
              have tM47_131_8 : M47 131 8 = M33 131 8 := f46 131 8 (fun q => absurd q.1 (by decide))
              have tM47_131_9 : M47 131 9 = M33 131 9 := f46 131 9 (fun q => absurd q.1 (by decide))
              have tM47_131_10 : M47 131 10 = M33 131 10 := f46 131 10 (fun q => absurd q.1 (by decide))
              have tM47_131_12 : M47 131 12 = M33 131 12 := f46 131 12 (fun q => absurd q.1 (by decide))
              have tM47_131_16 : M47 131 16 = M33 131 16 := f46 131 16 (fun q => absurd q.1 (by decide))
              have tM47_133_6 : M47 133 6 = M33 133 6 := f46 133 6 (fun q => by have := q.2; omega)
              have tM47_133_1 : M47 133 1 = M33 133 1 := f46 133 1 (fun q => by have := q.2; omega)
              have tM47_133_2 : M47 133 2 = M33 133 2 := f46 133 2 (fun q => by have := q.2; omega)
              have tM47_133_4 : M47 133 4 = M33 133 4 := f46 133 4 (fun q => by have := q.2; omega)
              have hT := tk_ws f46 (by decide) hT
              have hq9 := wl_wr f46 (by omega)
              have hL := hq9.2 hL
              have cM47 := hq9.1
              clear hq9
              have hF := hF.wr f46 (by decide) (by decide)
              have hW : WFk M47 := hW.site f46 (by decide)
              refine z_aload_n F dX12_readThing_199 rfl (q := 2) rfl ?_
              refine rf_X12_13 F gs_131 rfl dX12_readThing_200 ?_
              refine z_iconst F dX12_readThing_203 ?_
              refine z_dup2 F dX12_readThing_204 rfl rfl ?_
              refine z_iald F hI gs_133 (by omega) (by omega) (by decide) (show Bd 133 2 = (0, 8) from rfl) dX12_readThing_205 (fun v48 (ev48 : v48 = M47 133 2) av48 bv48 => ?_)
              have q49 : v24 = M27 133 2 := ev24.trans (f26 133 2 (fun q => by omega)).symm
              have q50 : v24 = M29 133 2 := q49.trans (f28 133 2 (fun q => by omega)).symm
              have q51 : v24 = M31 133 2 := q50.trans (f30 133 2 (fun q => by omega)).symm
              have q52 : v24 = M33 133 2 := q51.trans (f32 133 2 (fun q => by omega)).symm
              have q53 : v24 = M47 133 2 := q52.trans (f46 133 2 (fun q => by omega)).symm
              have zv48 : v24 = v48 := q53.trans ev48.symm
              subst zv48
              refine z_iconst F dX12_readThing_206 ?_
              refine z_iadd F dX12_readThing_207 ?_
              refine z_nm (fun v55 ev55 => ?_)
              refine z_iast F hI gs_133 (by omega) (by omega) (by decide) (show Bd 133 2 = (0, 8) from rfl) dX12_readThing_208 (by omega) (by omega) (fun M56 hI sf54 f54 => ?_)
              have tM56_131_7 : M56 131 7 = M47 131 7 := f54 131 7 (fun q => absurd q.1 (by decide))
              have tM56_131_8 : M56 131 8 = M47 131 8 := f54 131 8 (fun q => absurd q.1 (by decide))
              have tM56_131_9 : M56 131 9 = M47 131 9 := f54 131 9 (fun q => absurd q.1 (by decide))
              have tM56_131_10 : M56 131 10 = M47 131 10 := f54 131 10 (fun q => absurd q.1 (by decide))
              have tM56_131_12 : M56 131 12 = M47 131 12 := f54 131 12 (fun q => absurd q.1 (by decide))
              have tM56_131_16 : M56 131 16 = M47 131 16 := f54 131 16 (fun q => absurd q.1 (by decide))
              have tM56_133_6 : M56 133 6 = M47 133 6 := f54 133 6 (fun q => absurd q.2 (by decide))
              have tM56_133_1 : M56 133 1 = M47 133 1 := f54 133 1 (fun q => absurd q.2 (by decide))
              have tM56_133_4 : M56 133 4 = M47 133 4 := f54 133 4 (fun q => absurd q.2 (by decide))
              have hT := tk_ws f54 (by decide) hT
              have hq9 := wl_wr f54 (by omega)
              have hL := hq9.2 hL
              have cM56 := hq9.1
              clear hq9
              have hF := hF.wr f54 (by decide) (by decide)
              have hW : WFk M56 := hW.site f54 (by decide)
              have sf54 : M56 133 2 = v55 := sf54
              exact hret _ 209 _ ⟨hI, hW⟩ ⟨hF, ⟨hL, by omega, by omega, by omega, by omega, by omega, by omega, by omega, hT, by omega, by omega, by omega⟩⟩ dX12_readThing_209
          · exact hret _ 125 _ ⟨hI, hW⟩ ⟨hF, ⟨hL, by omega, by omega, by omega, by omega, by omega, by omega, by omega, hT, by omega, by omega, by omega⟩⟩ dX12_readThing_125
        refine z_aload_n F dX12_readThing_88 rfl (q := 0) rfl ?_
        refine z_ldcS (j := 63) F dX12_readThing_89 rfl rfl rfl ?_
        refine z_eq (st' := [.ref (ad 1063), .ref (ad 131)]) rfl rfl rfl ?_
        refine zv_i (rest := []) F (kp_X12_took_131_1063 l M15 ⟨hI, hW⟩ ⟨by omega, by omega, by omega, by omega, hT⟩) cs_X12_130 (T := TX12) (N := 44) (ci := 12) rfl gs_131 (by decide) (by decide) rfl rfl rfl (Nat.le_of_ble_eq_true rfl) dX12_readThing_91 (fun v57 M58 rv57 hI p59 => ?_)
        obtain ⟨hI, hW⟩ := hI
        obtain ⟨⟨av57, bv57⟩, fp59, xp59⟩ := p59
        have hF := hF.call fp59 (by decide)
        have tM58_133_6 : M58 133 6 = M15 133 6 := fp59.at (by decide)
        have tM58_133_1 : M58 133 1 = M15 133 1 := fp59.at (by decide)
        have tM58_133_2 : M58 133 2 = M15 133 2 := fp59.at (by decide)
        have tM58_133_4 : M58 133 4 = M15 133 4 := fp59.at (by decide)
        have hq9 := wl_fr fp59 (by decide)
        have hL := hq9.2 hL
        have cM58 := hq9.1
        clear hq9
        obtain ⟨qp59_0, qp59_1, qp59_2, qp59_3, qp59_4, qp59_5, qp59_6, qp59_7, qp59_8, qp59_9⟩ := xp59
        have kbM58 : 0 ≤ M58 131 12 ∧ M58 131 12 ≤ 4 := hI.at (show Bd 131 12 = (0, 4) from rfl)
        have hT : Tk M58 := qp59_7
        clear qp59_7
        have lzqp59_9 : M15 131 9 + v57 ≤ M58 131 9 := by omega
        clear qp59_9
        refine z_if_eq (tgt := 107) F dX12_readThing_94 (by decide +kernel) (by omega) (fun c60 => ?_) (fun c60 => ?_)
        · refine z_iconst F dX12_readThing_107 ?_
          refine z_istore F dX12_readThing_108 (by decide) (ls' := [(4, ii 1), (0, .ref (ad 131)), (1, ii v7), (2, ii v12), (3, ii y16)]) rfl ?_
          refine z_loc [1, 2, 3, 4, 0] (ls' := [(0, .ref (ad 131)), (1, ii v7), (2, ii v12), (3, ii y16), (4, ii 1)]) rfl ?_
          exact cut110 1 M58 hI hW hF (by omega) (by omega) (by omega) (by omega) hL hT
        · refine z_aload_n F dX12_readThing_97 rfl (q := 0) rfl ?_
          refine z_iconst F dX12_readThing_98 ?_
          refine z_bipush F dX12_readThing_99 (by decide +kernel) ?_
          refine zv_i (rest := []) F (kp_X12_number l M58 ⟨hI, hW⟩ 1 (by omega) (by omega) 9 (by omega) (by omega) ⟨by omega, by omega, by omega, by omega, hT⟩) cs_X12_199 (T := TX12) (N := 44) (ci := 12) rfl gs_131 (by decide) (by decide) rfl rfl rfl (Nat.le_of_ble_eq_true rfl) dX12_readThing_101 (fun v61 M62 rv61 hI p63 => ?_)
          obtain ⟨hI, hW⟩ := hI
          obtain ⟨⟨av61, bv61⟩, fp63, xp63⟩ := p63
          have hF := hF.call fp63 (by decide)
          have tM62_133_6 : M62 133 6 = M58 133 6 := fp63.at (by decide)
          have tM62_133_1 : M62 133 1 = M58 133 1 := fp63.at (by decide)
          have tM62_133_2 : M62 133 2 = M58 133 2 := fp63.at (by decide)
          have tM62_133_4 : M62 133 4 = M58 133 4 := fp63.at (by decide)
          have hq9 := wl_fr fp63 (by decide)
          have hL := hq9.2 hL
          have cM62 := hq9.1
          clear hq9
          have hkv61 : 1 ≤ v61 ∧ v61 ≤ 9 := by omega
          obtain ⟨qp63_0, qp63_1, qp63_2, qp63_3, qp63_4, qp63_5, qp63_6, qp63_7, qp63_8, qp63_9⟩ := xp63
          have kbM62 : 0 ≤ M62 131 12 ∧ M62 131 12 ≤ 4 := hI.at (show Bd 131 12 = (0, 4) from rfl)
          have hT : Tk M62 := qp63_7
          clear qp63_7
          clear qp63_8
          have lbqp63_9 : M58 131 12 ≤ 4 * M62 131 12 := by omega
          have lpqp63_9 : M58 131 9 + 1 ≤ M62 131 9 + M62 131 12 := by omega
          clear qp63_9
          refine z_goto (tgt := 108) F dX12_readThing_104 (by decide +kernel) ?_
          refine z_istore F dX12_readThing_108 (by decide) (ls' := [(4, ii v61), (0, .ref (ad 131)), (1, ii v7), (2, ii v12), (3, ii y16)]) rfl ?_
          refine z_loc [1, 2, 3, 4, 0] (ls' := [(0, .ref (ad 131)), (1, ii v7), (2, ii v12), (3, ii y16), (4, ii v61)]) rfl ?_
          exact cut110 v61 M62 hI hW hF (by omega) (by omega) (by omega) (by omega) hL hT
      refine z_aload_n F dX12_readThing_67 rfl (q := 2) rfl ?_
      refine z_ldcS (j := 62) F dX12_readThing_68 rfl rfl rfl ?_
      refine z_eq (st' := [.ref (ad 1062), .ref (ad 131)]) rfl rfl rfl ?_
      refine zv_i (rest := []) F (kp_X12_took_131_1062 l M13 ⟨hI, hW⟩ ⟨by omega, by omega, by omega, by omega, hT⟩) cs_X12_130 (T := TX12) (N := 44) (ci := 12) rfl gs_131 (by decide) (by decide) rfl rfl rfl (Nat.le_of_ble_eq_true rfl) dX12_readThing_70 (fun v64 M65 rv64 hI p66 => ?_)
      obtain ⟨hI, hW⟩ := hI
      obtain ⟨⟨av64, bv64⟩, fp66, xp66⟩ := p66
      have hF := hF.call fp66 (by decide)
      have tM65_133_6 : M65 133 6 = M13 133 6 := fp66.at (by decide)
      have tM65_133_1 : M65 133 1 = M13 133 1 := fp66.at (by decide)
      have tM65_133_2 : M65 133 2 = M13 133 2 := fp66.at (by decide)
      have tM65_133_4 : M65 133 4 = M13 133 4 := fp66.at (by decide)
      have hq9 := wl_fr fp66 (by decide)
      have hL := hq9.2 hL
      have cM65 := hq9.1
      clear hq9
      obtain ⟨qp66_0, qp66_1, qp66_2, qp66_3, qp66_4, qp66_5, qp66_6, qp66_7, qp66_8, qp66_9⟩ := xp66
      have kbM65 : 0 ≤ M65 131 12 ∧ M65 131 12 ≤ 4 := hI.at (show Bd 131 12 = (0, 4) from rfl)
      have hT : Tk M65 := qp66_7
      clear qp66_7
      have lzqp66_9 : M13 131 9 + v64 ≤ M65 131 9 := by omega
      clear qp66_9
      refine z_if_eq (tgt := 86) F dX12_readThing_73 (by decide +kernel) (by omega) (fun c67 => ?_) (fun c67 => ?_)
      · refine z_iconst F dX12_readThing_86 ?_
        refine z_istore_n F dX12_readThing_87 rfl (by decide) (ls' := [(3, ii 0), (2, ii v12), (1, ii v7), (0, .ref (ad 131))]) rfl ?_
        refine z_loc [3, 2, 1, 0] (ls' := [(0, .ref (ad 131)), (1, ii v7), (2, ii v12), (3, ii 0)]) rfl ?_
        exact cut88 0 M65 hI hW hF (by omega) (by omega) (by omega) (by omega) hL hT
      · refine z_aload_n F dX12_readThing_76 rfl (q := 2) rfl ?_
        refine z_iconst F dX12_readThing_77 ?_
        refine z_bipush F dX12_readThing_78 (by decide +kernel) ?_
        refine zv_i (rest := []) F (kp_X12_number l M65 ⟨hI, hW⟩ 0 (by omega) (by omega) 9 (by omega) (by omega) ⟨by omega, by omega, by omega, by omega, hT⟩) cs_X12_199 (T := TX12) (N := 44) (ci := 12) rfl gs_131 (by decide) (by decide) rfl rfl rfl (Nat.le_of_ble_eq_true rfl) dX12_readThing_80 (fun v68 M69 rv68 hI p70 => ?_)
        obtain ⟨hI, hW⟩ := hI
        obtain ⟨⟨av68, bv68⟩, fp70, xp70⟩ := p70
        have hF := hF.call fp70 (by decide)
        have tM69_133_6 : M69 133 6 = M65 133 6 := fp70.at (by decide)
        have tM69_133_1 : M69 133 1 = M65 133 1 := fp70.at (by decide)
        have tM69_133_2 : M69 133 2 = M65 133 2 := fp70.at (by decide)
        have tM69_133_4 : M69 133 4 = M65 133 4 := fp70.at (by decide)
        have hq9 := wl_fr fp70 (by decide)
        have hL := hq9.2 hL
        have cM69 := hq9.1
        clear hq9
        have hkv68 : 0 ≤ v68 ∧ v68 ≤ 9 := by omega
        obtain ⟨qp70_0, qp70_1, qp70_2, qp70_3, qp70_4, qp70_5, qp70_6, qp70_7, qp70_8, qp70_9⟩ := xp70
        have kbM69 : 0 ≤ M69 131 12 ∧ M69 131 12 ≤ 4 := hI.at (show Bd 131 12 = (0, 4) from rfl)
        have hT : Tk M69 := qp70_7
        clear qp70_7
        clear qp70_8
        have lbqp70_9 : M65 131 12 ≤ 4 * M69 131 12 := by omega
        have lpqp70_9 : M65 131 9 + 1 ≤ M69 131 9 + M69 131 12 := by omega
        clear qp70_9
        refine z_goto (tgt := 87) F dX12_readThing_83 (by decide +kernel) ?_
        refine z_istore_n F dX12_readThing_87 rfl (by decide) (ls' := [(3, ii v68), (2, ii v12), (1, ii v7), (0, .ref (ad 131))]) rfl ?_
        refine z_loc [3, 2, 1, 0] (ls' := [(0, .ref (ad 131)), (1, ii v7), (2, ii v12), (3, ii v68)]) rfl ?_
        exact cut88 v68 M69 hI hW hF (by omega) (by omega) (by omega) (by omega) hL hT
    refine z_aload_n F dX12_readThing_11 rfl (q := 0) rfl ?_
    refine gf_X12_88 F hI gs_131 rfl bd_131_10 dX12_readThing_12 (fun v71 ev71 av71 bv71 => ?_)
    refine z_iconst F dX12_readThing_15 ?_
    refine z_icmp_ne (tgt := 39) F dX12_readThing_16 (by decide +kernel) (by omega) (by omega) (fun c72 => ?_) (fun c72 => ?_)
    · refine z_loc [0] (ls' := [(0, .ref (ad 131))]) rfl ?_
      exact cut39 M2 hI hW hF (by omega) (by omega) hL hT
    · refine z_aload_n F dX12_readThing_19 rfl (q := 0) rfl ?_
      refine rf_X12_13 F gs_131 rfl dX12_readThing_20 ?_
      refine z_aload_n F dX12_readThing_23 rfl (q := 0) rfl ?_
      refine gf_X12_102 F hI gs_131 rfl bd_131_11 dX12_readThing_24 (fun v73 ev73 av73 bv73 => ?_)
      refine zs_i (rest := []) F (k_X12_thingAt_133 l M2 ⟨hI, hW⟩ v73 (by omega) (by omega)) cs_X12_209 (by decide) (by decide) rfl rfl rfl (Nat.le_of_ble_eq_true rfl) dX12_readThing_27 (fun v74 M75 rv74 hI p76 => ?_)
      obtain ⟨hI, hW⟩ := hI
      obtain ⟨⟨av74, bv74⟩, rfl⟩ := p76
      refine z_iconst F dX12_readThing_30 ?_
      refine z_icmp_eq (tgt := 39) F dX12_readThing_31 (by decide +kernel) (by omega) (by omega) (fun c77 => ?_) (fun c77 => ?_)
      · refine z_loc [0] (ls' := [(0, .ref (ad 131))]) rfl ?_
        exact cut39 M2 hI hW hF (by omega) (by omega) hL hT
      · refine z_aload_n F dX12_readThing_34 rfl (q := 0) rfl ?_
        refine z_iconst F dX12_readThing_35 ?_
        refine zv_v (rest := []) F (kp_X12_blames l M2 ⟨hI, hW⟩ 3 (by omega) (by omega)) cs_X12_133 (T := TX12) (N := 44) (ci := 12) rfl gs_131 (by decide) (by decide) rfl rfl rfl (Nat.le_of_ble_eq_true rfl) dX12_readThing_36 (fun M78 hI p79 => ?_)
        obtain ⟨hI, hW⟩ := hI
        obtain ⟨fp79, xp79⟩ := p79
        have hF := hF.call fp79 (by decide)
        have tM78_133_6 : M78 133 6 = M2 133 6 := fp79.at (by decide)
        have tM78_133_1 : M78 133 1 = M2 133 1 := fp79.at (by decide)
        have tM78_133_2 : M78 133 2 = M2 133 2 := fp79.at (by decide)
        have tM78_133_4 : M78 133 4 = M2 133 4 := fp79.at (by decide)
        have hq9 := wl_fr fp79 (by decide)
        have hL := hq9.2 hL
        have cM78 := hq9.1
        clear hq9
        obtain ⟨qp79_0, qp79_1, qp79_2, qp79_3, qp79_4, qp79_5⟩ := xp79
        have kbM78 : 0 ≤ M78 131 12 ∧ M78 131 12 ≤ 4 := hI.at (show Bd 131 12 = (0, 4) from rfl)
        have hT := tk_eq hT qp79_2 qp79_3 qp79_4
        refine z_loc [0] (ls' := [(0, .ref (ad 131))]) rfl ?_
        exact cut39 M78 hI hW hF (by omega) (by omega) hL hT
  · exact hret _ 10 _ ⟨hI, hW⟩ ⟨hF, ⟨hL, by omega, by omega, by omega, by omega, by omega, by omega, by omega, hT, by omega, by omega, by omega⟩⟩ dX12_readThing_10
set_option maxHeartbeats 4000000 in
set_option maxRecDepth 4000 in
theorem kp_X12_isWord_131_1060 (l : Launch) (M : Mem) (hJ : Iw M) (hp0 : 0 ≤ M 131 9 ∧ M 131 9 ≤ M 131 8 ∧ M 131 8 ≤ M 131 7 ∧ M 131 7 ≤ 900 ∧ (M 131 10 = 0 ∨ M 131 9 < M 131 8)) : CI l yX12_isWord cX12_isWord 4 (some .boolean) 5 (fun ad => [.ref (ad 131), .ref (ad 1060)]) M (fun z M' => (0 ≤ z ∧ z ≤ 1) ∧ M = M' ∧ (z = 1 → M 131 12 = 0 ∧ M 131 10 = 1)) := by
  obtain ⟨hI, hW⟩ := hJ
  refine en_z (by decide +kernel) (fun ad => by exact Nat.le_of_ble_eq_true rfl) (fun D cy ad A p e s m args below meth c Q F hret => ?_)
  refine z_eq (ls' := [(0, .ref (ad 131)), (1, .ref (ad 1060))]) rfl rfl rfl ?_
  obtain ⟨u1, eu1⟩ : ∃ v : Int, v = M 131 7 := ⟨_, rfl⟩
  have ku1 : 0 ≤ u1 ∧ u1 ≤ 900 := by have := hI.at (show Bd 131 7 = (0, 900) from rfl); omega
  obtain ⟨u2, eu2⟩ : ∃ v : Int, v = M 131 8 := ⟨_, rfl⟩
  have ku2 : 0 ≤ u2 ∧ u2 ≤ 900 := by have := hI.at (show Bd 131 8 = (0, 900) from rfl); omega
  obtain ⟨u3, eu3⟩ : ∃ v : Int, v = M 131 9 := ⟨_, rfl⟩
  have ku3 : 0 ≤ u3 ∧ u3 ≤ 900 := by have := hI.at (show Bd 131 9 = (0, 900) from rfl); omega
  obtain ⟨u4, eu4⟩ : ∃ v : Int, v = M 131 10 := ⟨_, rfl⟩
  have ku4 : (-2147483648) ≤ u4 ∧ u4 ≤ 2147483647 := by have := hI.at (show Bd 131 10 = (-2147483648, 2147483647) from rfl); omega
  obtain ⟨u5, eu5⟩ : ∃ v : Int, v = M 131 12 := ⟨_, rfl⟩
  have ku5 : 0 ≤ u5 ∧ u5 ≤ 4 := by have := hI.at (show Bd 131 12 = (0, 4) from rfl); omega
  obtain ⟨u6, eu6⟩ : ∃ v : Int, v = M 131 16 := ⟨_, rfl⟩
  have ku6 : (-2147483648) ≤ u6 ∧ u6 ≤ 2147483647 := by have := hI.at (show Bd 131 16 = (-2147483648, 2147483647) from rfl); omega
  refine z_aload_n F dX12_isWord_0 rfl (q := 0) rfl ?_
  refine gf_X12_108 F hI gs_131 rfl bd_131_12 dX12_isWord_1 (fun v7 ev7 av7 bv7 => ?_)
  have zv7 : u5 = v7 := eu5.trans ev7.symm
  subst zv7
  refine z_if_ne (tgt := 35) F dX12_isWord_4 (by decide +kernel) (by omega) (fun c8 => ?_) (fun c8 => ?_)
  · refine z_iconst F dX12_isWord_35 ?_
    refine z_istore_n F dX12_isWord_36 rfl (by decide) (ls' := [(2, ii 0), (0, .ref (ad 131)), (1, .ref (ad 1060))]) rfl ?_
    refine z_iconst F dX12_isWord_37 ?_
    refine z_istore_n F dX12_isWord_38 rfl (by decide) (ls' := [(3, ii 0), (2, ii 0), (0, .ref (ad 131)), (1, .ref (ad 1060))]) rfl ?_
    refine z_loc [2, 3, 1, 0] (ls' := [(0, .ref (ad 131)), (1, .ref (ad 1060)), (2, ii 0), (3, ii 0)]) rfl ?_
    suffices key39 : ∀ (n : Nat) (y10 : Int) (y11 : Int), 0 ≤ y10 → y10 ≤ 0 → 0 ≤ y11 → y11 ≤ 0 → (y10 = 1 → M 131 12 = 0 ∧ M 131 10 = 1 ∧ M 131 8 - M 131 9 = 5) → 0 < (n : Int) → Z D cy ad p l e (RMh 5) s m args below meth c A 4 0 0 Q 39 [(0, .ref (ad 131)), (1, .ref (ad 1060)), (2, ii y10), (3, ii y11)] [] M from key39 1 0 0 (by omega) (by omega) (by omega) (by omega) (by omega) (by omega)
    intro n39
    induction n39 with
    | zero => intro y10 y11 ay10 by10 ay11 by11 i39_0 hn39; exfalso; omega
    | succ n39 ih39 =>
      intro y10 y11 ay10 by10 ay11 by11 i39_0 hn39
      refine z_iload_n F dX12_isWord_39 rfl (q := 2) rfl ?_
      refine z_if_eq (tgt := 82) F dX12_isWord_40 (by decide +kernel) (by omega) (fun c12 => ?_) (fun c12 => by exfalso; omega)
      refine z_iload_n F dX12_isWord_82 rfl (q := 2) rfl ?_
      exact hret _ _ 83 _ ⟨by omega, by omega⟩ ⟨hI, hW⟩ ⟨⟨by omega, by omega⟩, rfl, (by omega)⟩ dX12_isWord_83
  · refine z_aload_n F dX12_isWord_7 rfl (q := 0) rfl ?_
    refine gf_X12_88 F hI gs_131 rfl bd_131_10 dX12_isWord_8 (fun v13 ev13 av13 bv13 => ?_)
    have zv13 : u4 = v13 := eu4.trans ev13.symm
    subst zv13
    refine z_iconst F dX12_isWord_11 ?_
    refine z_icmp_ne (tgt := 35) F dX12_isWord_12 (by decide +kernel) (by omega) (by omega) (fun c14 => ?_) (fun c14 => ?_)
    · refine z_iconst F dX12_isWord_35 ?_
      refine z_istore_n F dX12_isWord_36 rfl (by decide) (ls' := [(2, ii 0), (0, .ref (ad 131)), (1, .ref (ad 1060))]) rfl ?_
      refine z_iconst F dX12_isWord_37 ?_
      refine z_istore_n F dX12_isWord_38 rfl (by decide) (ls' := [(3, ii 0), (2, ii 0), (0, .ref (ad 131)), (1, .ref (ad 1060))]) rfl ?_
      refine z_loc [2, 3, 1, 0] (ls' := [(0, .ref (ad 131)), (1, .ref (ad 1060)), (2, ii 0), (3, ii 0)]) rfl ?_
      suffices key39 : ∀ (n : Nat) (y16 : Int) (y17 : Int), 0 ≤ y16 → y16 ≤ 0 → 0 ≤ y17 → y17 ≤ 0 → (y16 = 1 → M 131 12 = 0 ∧ M 131 10 = 1 ∧ M 131 8 - M 131 9 = 5) → 0 < (n : Int) → Z D cy ad p l e (RMh 5) s m args below meth c A 4 0 0 Q 39 [(0, .ref (ad 131)), (1, .ref (ad 1060)), (2, ii y16), (3, ii y17)] [] M from key39 1 0 0 (by omega) (by omega) (by omega) (by omega) (by omega) (by omega)
      intro n39
      induction n39 with
      | zero => intro y16 y17 ay16 by16 ay17 by17 i39_0 hn39; exfalso; omega
      | succ n39 ih39 =>
        intro y16 y17 ay16 by16 ay17 by17 i39_0 hn39
        refine z_iload_n F dX12_isWord_39 rfl (q := 2) rfl ?_
        refine z_if_eq (tgt := 82) F dX12_isWord_40 (by decide +kernel) (by omega) (fun c18 => ?_) (fun c18 => by exfalso; omega)
        refine z_iload_n F dX12_isWord_82 rfl (q := 2) rfl ?_
        exact hret _ _ 83 _ ⟨by omega, by omega⟩ ⟨hI, hW⟩ ⟨⟨by omega, by omega⟩, rfl, (by omega)⟩ dX12_isWord_83
    · refine z_aload_n F dX12_isWord_15 rfl (q := 0) rfl ?_
      refine gf_X12_82 F hI gs_131 rfl bd_131_8 dX12_isWord_16 (fun v19 ev19 av19 bv19 => ?_)
      have zv19 : u2 = v19 := eu2.trans ev19.symm
      subst zv19
      refine z_aload_n F dX12_isWord_19 rfl (q := 0) rfl ?_
      refine gf_X12_85 F hI gs_131 rfl bd_131_9 dX12_isWord_20 (fun v20 ev20 av20 bv20 => ?_)
      have zv20 : u3 = v20 := eu3.trans ev20.symm
      subst zv20
      refine z_isub F dX12_isWord_23 ?_
      refine z_aload_n F dX12_isWord_24 rfl (q := 1) rfl ?_
      refine zvs_i (i := 60) (rest := [ii (u2 - u3)]) F (kS_len l M ⟨hI, hW⟩ 60 (by decide)) cs_X12_114 (by decide) (by decide) (by decide) rfl rfl rfl (Nat.le_of_ble_eq_true rfl) dX12_isWord_25 (fun v21 M9 rv21 hI9 pv21 => ?_)
      obtain ⟨ev21, rfl⟩ := pv21
      obtain rfl : v21 = 5 := ev21.trans (show ((sbyt.getD 60 []).length : Int) = 5 from by decide)
      clear hI9
      refine z_icmp_ne (tgt := 35) F dX12_isWord_28 (by decide +kernel) (by omega) (by omega) (fun c22 => ?_) (fun c22 => ?_)
      · refine z_iconst F dX12_isWord_35 ?_
        refine z_istore_n F dX12_isWord_36 rfl (by decide) (ls' := [(2, ii 0), (0, .ref (ad 131)), (1, .ref (ad 1060))]) rfl ?_
        refine z_iconst F dX12_isWord_37 ?_
        refine z_istore_n F dX12_isWord_38 rfl (by decide) (ls' := [(3, ii 0), (2, ii 0), (0, .ref (ad 131)), (1, .ref (ad 1060))]) rfl ?_
        refine z_loc [2, 3, 1, 0] (ls' := [(0, .ref (ad 131)), (1, .ref (ad 1060)), (2, ii 0), (3, ii 0)]) rfl ?_
        suffices key39 : ∀ (n : Nat) (y24 : Int) (y25 : Int), 0 ≤ y24 → y24 ≤ 0 → 0 ≤ y25 → y25 ≤ 0 → (y24 = 1 → M 131 12 = 0 ∧ M 131 10 = 1 ∧ M 131 8 - M 131 9 = 5) → 0 < (n : Int) → Z D cy ad p l e (RMh 5) s m args below meth c A 4 0 0 Q 39 [(0, .ref (ad 131)), (1, .ref (ad 1060)), (2, ii y24), (3, ii y25)] [] M from key39 1 0 0 (by omega) (by omega) (by omega) (by omega) (by omega) (by omega)
        intro n39
        induction n39 with
        | zero => intro y24 y25 ay24 by24 ay25 by25 i39_0 hn39; exfalso; omega
        | succ n39 ih39 =>
          intro y24 y25 ay24 by24 ay25 by25 i39_0 hn39
          refine z_iload_n F dX12_isWord_39 rfl (q := 2) rfl ?_
          refine z_if_eq (tgt := 82) F dX12_isWord_40 (by decide +kernel) (by omega) (fun c26 => ?_) (fun c26 => by exfalso; omega)
          refine z_iload_n F dX12_isWord_82 rfl (q := 2) rfl ?_
          exact hret _ _ 83 _ ⟨by omega, by omega⟩ ⟨hI, hW⟩ ⟨⟨by omega, by omega⟩, rfl, (by omega)⟩ dX12_isWord_83
      · refine z_iconst F dX12_isWord_31 ?_
        refine z_goto (tgt := 36) F dX12_isWord_32 (by decide +kernel) ?_
        refine z_istore_n F dX12_isWord_36 rfl (by decide) (ls' := [(2, ii 1), (0, .ref (ad 131)), (1, .ref (ad 1060))]) rfl ?_
        refine z_iconst F dX12_isWord_37 ?_
        refine z_istore_n F dX12_isWord_38 rfl (by decide) (ls' := [(3, ii 0), (2, ii 1), (0, .ref (ad 131)), (1, .ref (ad 1060))]) rfl ?_
        refine z_loc [2, 3, 1, 0] (ls' := [(0, .ref (ad 131)), (1, .ref (ad 1060)), (2, ii 1), (3, ii 0)]) rfl ?_
        suffices key39 : ∀ (n : Nat) (y28 : Int) (y29 : Int), 0 ≤ y28 → y28 ≤ 1 → 0 ≤ y29 → y29 ≤ 5 → (y28 = 1 → M 131 12 = 0 ∧ M 131 10 = 1 ∧ M 131 8 - M 131 9 = 5) → 5 - y29 < (n : Int) → Z D cy ad p l e (RMh 5) s m args below meth c A 4 0 0 Q 39 [(0, .ref (ad 131)), (1, .ref (ad 1060)), (2, ii y28), (3, ii y29)] [] M from key39 6 1 0 (by omega) (by omega) (by omega) (by omega) (by omega) (by omega)
        intro n39
        induction n39 with
        | zero => intro y28 y29 ay28 by28 ay29 by29 i39_0 hn39; exfalso; omega
        | succ n39 ih39 =>
          intro y28 y29 ay28 by28 ay29 by29 i39_0 hn39
          refine z_iload_n F dX12_isWord_39 rfl (q := 2) rfl ?_
          refine z_if_eq (tgt := 82) F dX12_isWord_40 (by decide +kernel) (by omega) (fun c30 => ?_) (fun c30 => ?_)
          · refine z_iload_n F dX12_isWord_82 rfl (q := 2) rfl ?_
            exact hret _ _ 83 _ ⟨by omega, by omega⟩ ⟨hI, hW⟩ ⟨⟨by omega, by omega⟩, rfl, (by omega)⟩ dX12_isWord_83
          · refine z_iload_n F dX12_isWord_43 rfl (q := 3) rfl ?_
            refine z_aload_n F dX12_isWord_44 rfl (q := 1) rfl ?_
            refine zvs_i (i := 60) (rest := [ii y29]) F (kS_len l M ⟨hI, hW⟩ 60 (by decide)) cs_X12_114 (by decide) (by decide) (by decide) rfl rfl rfl (Nat.le_of_ble_eq_true rfl) dX12_isWord_45 (fun v31 M9 rv31 hI9 pv31 => ?_)
            obtain ⟨ev31, rfl⟩ := pv31
            obtain rfl : v31 = 5 := ev31.trans (show ((sbyt.getD 60 []).length : Int) = 5 from by decide)
            clear hI9
            refine z_icmp_ge (tgt := 82) F dX12_isWord_48 (by decide +kernel) (by omega) (by omega) (fun c32 => ?_) (fun c32 => ?_)
            · refine z_iload_n F dX12_isWord_82 rfl (q := 2) rfl ?_
              exact hret _ _ 83 _ ⟨by omega, by omega⟩ ⟨hI, hW⟩ ⟨⟨by omega, by omega⟩, rfl, (by omega)⟩ dX12_isWord_83
            · refine z_aload_n F dX12_isWord_51 rfl (q := 0) rfl ?_
              refine rf_X12_23 F gs_131 rfl dX12_isWord_52 ?_
              refine z_aload_n F dX12_isWord_55 rfl (q := 0) rfl ?_
              refine gf_X12_85 F hI gs_131 rfl bd_131_9 dX12_isWord_56 (fun v33 ev33 av33 bv33 => ?_)
              have zv33 : u3 = v33 := eu3.trans ev33.symm
              subst zv33
              refine z_iload_n F dX12_isWord_59 rfl (q := 3) rfl ?_
              refine z_iadd F dX12_isWord_60 ?_
              have k34 : 0 ≤ (u3 + y29) ∧ (u3 + y29) ≤ 899 := by omega
              refine z_iald F hI gs_136 (by omega) (by omega) (by decide) bd_136 dX12_isWord_61 (fun v35 (ev35 : v35 = M 136 _) av35 bv35 => ?_)
              refine z_aload_n F dX12_isWord_62 rfl (q := 1) rfl ?_
              refine z_iload_n F dX12_isWord_63 rfl (q := 3) rfl ?_
              refine zvs_i (i := 60) (rest := [ii v35]) F (kS_chr l M ⟨hI, hW⟩ 60 (by decide) y29 (by omega) (show y29 < ((sbyt.getD 60 []).length : Int) from by rw [show ((sbyt.getD 60 []).length : Int) = 5 from by decide]; omega)) cs_X12_119 (by decide) (by decide) (by decide) rfl rfl rfl (Nat.le_of_ble_eq_true rfl) dX12_isWord_64 (fun v36 M9 rv36 hI9 pv36 => ?_)
              obtain ⟨⟨av36, bv36⟩, rfl⟩ := pv36
              clear hI9
              refine z_icmp_ne (tgt := 74) F dX12_isWord_67 (by decide +kernel) (by omega) (by omega) (fun c37 => ?_) (fun c37 => ?_)
              · refine z_iconst F dX12_isWord_74 ?_
                refine z_istore_n F dX12_isWord_75 rfl (by decide) (ls' := [(2, ii 0), (0, .ref (ad 131)), (1, .ref (ad 1060)), (3, ii y29)]) rfl ?_
                refine z_iincN F dX12_isWord_76 (q := 3) rfl (by decide) (fun v38 ev38 => ?_)
                refine z_eq (ls' := [(3, ii v38), (2, ii 0), (0, .ref (ad 131)), (1, .ref (ad 1060))]) rfl rfl rfl ?_
                refine z_goto (tgt := 39) F dX12_isWord_79 (by decide +kernel) ?_
                refine z_loc [2, 3, 1, 0] (ls' := [(0, .ref (ad 131)), (1, .ref (ad 1060)), (2, ii 0), (3, ii v38)]) rfl ?_
                exact ih39 0 v38 (by omega) (by omega) (by omega) (by omega) (by omega) (by omega)
              · refine z_iconst F dX12_isWord_70 ?_
                refine z_goto (tgt := 75) F dX12_isWord_71 (by decide +kernel) ?_
                refine z_istore_n F dX12_isWord_75 rfl (by decide) (ls' := [(2, ii 1), (0, .ref (ad 131)), (1, .ref (ad 1060)), (3, ii y29)]) rfl ?_
                refine z_iincN F dX12_isWord_76 (q := 3) rfl (by decide) (fun v39 ev39 => ?_)
                refine z_eq (ls' := [(3, ii v39), (2, ii 1), (0, .ref (ad 131)), (1, .ref (ad 1060))]) rfl rfl rfl ?_
                refine z_goto (tgt := 39) F dX12_isWord_79 (by decide +kernel) ?_
                refine z_loc [2, 3, 1, 0] (ls' := [(0, .ref (ad 131)), (1, .ref (ad 1060)), (2, ii 1), (3, ii v39)]) rfl ?_
                exact ih39 1 v39 (by omega) (by omega) (by omega) (by omega) (by omega) (by omega)
set_option maxHeartbeats 4000000 in
set_option maxRecDepth 4000 in
theorem kp_X12_took_131_1060 (l : Launch) (M : Mem) (hJ : Iw M) (hp0 : 0 ≤ M 131 9 ∧ M 131 9 ≤ M 131 8 ∧ M 131 8 ≤ M 131 7 ∧ M 131 7 ≤ 900 ∧ (M 131 10 = 0 ∨ M 131 9 < M 131 8)) : CI l yX12_took cX12_took 3 (some .boolean) 6 (fun ad => [.ref (ad 131), .ref (ad 1060)]) M (fun z M' => (0 ≤ z ∧ z ≤ 1) ∧ Fr [131] M M' ∧ (M' 131 7 = M 131 7 ∧ M' 131 16 = M 131 16 ∧ M 131 9 ≤ M' 131 9 ∧ 0 ≤ M' 131 9 ∧ M' 131 9 ≤ M' 131 8 ∧ M' 131 8 ≤ M' 131 7 ∧ M' 131 7 ≤ 900 ∧ (M' 131 10 = 0 ∨ M' 131 9 < M' 131 8) ∧ M' 131 12 = M 131 12 ∧ (z = 1 → M 131 12 = 0 ∧ M 131 9 < M' 131 9))) := by
  obtain ⟨hI, hW⟩ := hJ
  have hF : Fr [131] M M := Fr.rf
  refine en_z (by decide +kernel) (fun ad => by exact Nat.le_of_ble_eq_true rfl) (fun D cy ad A p e s m args below meth c Q F hret => ?_)
  refine z_eq (ls' := [(0, .ref (ad 131)), (1, .ref (ad 1060))]) rfl rfl rfl ?_
  refine z_aload_n F dX12_took_0 rfl (q := 0) rfl ?_
  refine z_aload_n F dX12_took_1 rfl (q := 1) rfl ?_
  refine zv_i (rest := []) F (kp_X12_isWord_131_1060 l M ⟨hI, hW⟩ (by omega)) cs_X12_123 (T := TX12) (N := 44) (ci := 12) rfl gs_131 (by decide) (by decide) rfl rfl rfl (Nat.le_of_ble_eq_true rfl) dX12_took_2 (fun v1 M2 rv1 hI p3 => ?_)
  obtain ⟨hI, hW⟩ := hI
  obtain ⟨⟨av1, bv1⟩, rfl, xp3⟩ := p3
  refine z_istore_n F dX12_took_5 rfl (by decide) (ls' := [(2, ii v1), (0, .ref (ad 131)), (1, .ref (ad 1060))]) rfl ?_
  refine z_iload_n F dX12_took_6 rfl (q := 0) rfl ?_
  refine z_if_eq (tgt := 14) F dX12_took_7 (by decide +kernel) (by omega) (fun c4 => ?_) (fun c4 => ?_)
  · refine z_iload_n F dX12_took_14 rfl (q := 0) rfl ?_
    exact hret _ _ 15 _ ⟨by omega, by omega⟩ ⟨hI, hW⟩ ⟨⟨by omega, by omega⟩, hF, (by omega)⟩ dX12_took_15
  · refine z_aload_n F dX12_took_10 rfl (q := 1) rfl ?_
    refine zv_v (rest := []) F (kp_X12_readsOn l M ⟨hI, hW⟩ (by omega)) cs_X12_127 (T := TX12) (N := 44) (ci := 12) rfl gs_131 (by decide) (by decide) rfl rfl rfl (Nat.le_of_ble_eq_true rfl) dX12_took_11 (fun M5 hI p6 => ?_)
    obtain ⟨hI, hW⟩ := hI
    obtain ⟨fp6, xp6⟩ := p6
    have hF := hF.call fp6 (by decide)
    have tM5_133_6 : M5 133 6 = M 133 6 := fp6.at (by decide)
    have tM5_133_1 : M5 133 1 = M 133 1 := fp6.at (by decide)
    refine z_iload_n F dX12_took_14 rfl (q := 0) rfl ?_
    exact hret _ _ 15 _ ⟨by omega, by omega⟩ ⟨hI, hW⟩ ⟨⟨by omega, by omega⟩, hF, (by omega)⟩ dX12_took_15
set_option maxHeartbeats 4000000 in
set_option maxRecDepth 4000 in
theorem kp_X12_mustWord_131_1060 (l : Launch) (M : Mem) (hJ : Iw M) (hp0 : 0 ≤ M 131 9 ∧ M 131 9 ≤ M 131 8 ∧ M 131 8 ≤ M 131 7 ∧ M 131 7 ≤ 900 ∧ (M 131 10 = 0 ∨ M 131 9 < M 131 8)) : CV l yX12_mustWord cX12_mustWord 2 none 7 (fun ad => [.ref (ad 131), .ref (ad 1060)]) M (fun M' => Fr [131] M M' ∧ (M' 131 7 = M 131 7 ∧ M' 131 16 = M 131 16 ∧ M 131 9 ≤ M' 131 9 ∧ 0 ≤ M' 131 9 ∧ M' 131 9 ≤ M' 131 8 ∧ M' 131 8 ≤ M' 131 7 ∧ M' 131 7 ≤ 900 ∧ (M' 131 10 = 0 ∨ M' 131 9 < M' 131 8) ∧ (M' 131 12 = 0 → M 131 12 = 0))) := by
  obtain ⟨hI, hW⟩ := hJ
  have hF : Fr [131] M M := Fr.rf
  refine en_v (by decide +kernel) (fun ad => by exact Nat.le_of_ble_eq_true rfl) (fun D cy ad A p e s m args below meth c Q F hret => ?_)
  refine z_eq (ls' := [(0, .ref (ad 131)), (1, .ref (ad 1060))]) rfl rfl rfl ?_
  refine z_aload_n F dX12_mustWord_0 rfl (q := 0) rfl ?_
  refine z_aload_n F dX12_mustWord_1 rfl (q := 1) rfl ?_
  refine zv_i (rest := []) F (kp_X12_took_131_1060 l M ⟨hI, hW⟩ (by omega)) cs_X12_130 (T := TX12) (N := 44) (ci := 12) rfl gs_131 (by decide) (by decide) rfl rfl rfl (Nat.le_of_ble_eq_true rfl) dX12_mustWord_2 (fun v1 M2 rv1 hI p3 => ?_)
  obtain ⟨hI, hW⟩ := hI
  obtain ⟨⟨av1, bv1⟩, fp3, xp3⟩ := p3
  have hF := hF.call fp3 (by decide)
  have tM2_133_6 : M2 133 6 = M 133 6 := fp3.at (by decide)
  have tM2_133_1 : M2 133 1 = M 133 1 := fp3.at (by decide)
  refine z_if_ne (tgt := 13) F dX12_mustWord_5 (by decide +kernel) (by omega) (fun c4 => ?_) (fun c4 => ?_)
  · exact hret _ 13 _ ⟨hI, hW⟩ ⟨hF, (by omega)⟩ dX12_mustWord_13
  · refine z_aload_n F dX12_mustWord_8 rfl (q := 0) rfl ?_
    refine z_iconst F dX12_mustWord_9 ?_
    refine zv_v (rest := []) F (kp_X12_blames l M2 ⟨hI, hW⟩ 2 (by omega) (by omega)) cs_X12_133 (T := TX12) (N := 44) (ci := 12) rfl gs_131 (by decide) (by decide) rfl rfl rfl (Nat.le_of_ble_eq_true rfl) dX12_mustWord_10 (fun M5 hI p6 => ?_)
    obtain ⟨hI, hW⟩ := hI
    obtain ⟨fp6, xp6⟩ := p6
    have hF := hF.call fp6 (by decide)
    have tM5_133_6 : M5 133 6 = M2 133 6 := fp6.at (by decide)
    have tM5_133_1 : M5 133 1 = M2 133 1 := fp6.at (by decide)
    exact hret _ 13 _ ⟨hI, hW⟩ ⟨hF, (by omega)⟩ dX12_mustWord_13
set_option maxHeartbeats 4000000 in
set_option maxRecDepth 4000 in
theorem kp_X12_isWord_131_1066 (l : Launch) (M : Mem) (hJ : Iw M) (hp0 : 0 ≤ M 131 9 ∧ M 131 9 ≤ M 131 8 ∧ M 131 8 ≤ M 131 7 ∧ M 131 7 ≤ 900 ∧ (M 131 10 = 0 ∨ M 131 9 < M 131 8)) : CI l yX12_isWord cX12_isWord 4 (some .boolean) 5 (fun ad => [.ref (ad 131), .ref (ad 1066)]) M (fun z M' => (0 ≤ z ∧ z ≤ 1) ∧ M = M' ∧ (z = 1 → M 131 12 = 0 ∧ M 131 10 = 1)) := by
  obtain ⟨hI, hW⟩ := hJ
  refine en_z (by decide +kernel) (fun ad => by exact Nat.le_of_ble_eq_true rfl) (fun D cy ad A p e s m args below meth c Q F hret => ?_)
  refine z_eq (ls' := [(0, .ref (ad 131)), (1, .ref (ad 1066))]) rfl rfl rfl ?_
  obtain ⟨u1, eu1⟩ : ∃ v : Int, v = M 131 7 := ⟨_, rfl⟩
  have ku1 : 0 ≤ u1 ∧ u1 ≤ 900 := by have := hI.at (show Bd 131 7 = (0, 900) from rfl); omega
  obtain ⟨u2, eu2⟩ : ∃ v : Int, v = M 131 8 := ⟨_, rfl⟩
  have ku2 : 0 ≤ u2 ∧ u2 ≤ 900 := by have := hI.at (show Bd 131 8 = (0, 900) from rfl); omega
  obtain ⟨u3, eu3⟩ : ∃ v : Int, v = M 131 9 := ⟨_, rfl⟩
  have ku3 : 0 ≤ u3 ∧ u3 ≤ 900 := by have := hI.at (show Bd 131 9 = (0, 900) from rfl); omega
  obtain ⟨u4, eu4⟩ : ∃ v : Int, v = M 131 10 := ⟨_, rfl⟩
  have ku4 : (-2147483648) ≤ u4 ∧ u4 ≤ 2147483647 := by have := hI.at (show Bd 131 10 = (-2147483648, 2147483647) from rfl); omega
  obtain ⟨u5, eu5⟩ : ∃ v : Int, v = M 131 12 := ⟨_, rfl⟩
  have ku5 : 0 ≤ u5 ∧ u5 ≤ 4 := by have := hI.at (show Bd 131 12 = (0, 4) from rfl); omega
  obtain ⟨u6, eu6⟩ : ∃ v : Int, v = M 131 16 := ⟨_, rfl⟩
  have ku6 : (-2147483648) ≤ u6 ∧ u6 ≤ 2147483647 := by have := hI.at (show Bd 131 16 = (-2147483648, 2147483647) from rfl); omega
  refine z_aload_n F dX12_isWord_0 rfl (q := 0) rfl ?_
  refine gf_X12_108 F hI gs_131 rfl bd_131_12 dX12_isWord_1 (fun v7 ev7 av7 bv7 => ?_)
  have zv7 : u5 = v7 := eu5.trans ev7.symm
  subst zv7
  refine z_if_ne (tgt := 35) F dX12_isWord_4 (by decide +kernel) (by omega) (fun c8 => ?_) (fun c8 => ?_)
  · refine z_iconst F dX12_isWord_35 ?_
    refine z_istore_n F dX12_isWord_36 rfl (by decide) (ls' := [(2, ii 0), (0, .ref (ad 131)), (1, .ref (ad 1066))]) rfl ?_
    refine z_iconst F dX12_isWord_37 ?_
    refine z_istore_n F dX12_isWord_38 rfl (by decide) (ls' := [(3, ii 0), (2, ii 0), (0, .ref (ad 131)), (1, .ref (ad 1066))]) rfl ?_
    refine z_loc [2, 3, 1, 0] (ls' := [(0, .ref (ad 131)), (1, .ref (ad 1066)), (2, ii 0), (3, ii 0)]) rfl ?_
    suffices key39 : ∀ (n : Nat) (y10 : Int) (y11 : Int), 0 ≤ y10 → y10 ≤ 0 → 0 ≤ y11 → y11 ≤ 0 → (y10 = 1 → M 131 12 = 0 ∧ M 131 10 = 1 ∧ M 131 8 - M 131 9 = 4) → 0 < (n : Int) → Z D cy ad p l e (RMh 5) s m args below meth c A 4 0 0 Q 39 [(0, .ref (ad 131)), (1, .ref (ad 1066)), (2, ii y10), (3, ii y11)] [] M from key39 1 0 0 (by omega) (by omega) (by omega) (by omega) (by omega) (by omega)
    intro n39
    induction n39 with
    | zero => intro y10 y11 ay10 by10 ay11 by11 i39_0 hn39; exfalso; omega
    | succ n39 ih39 =>
      intro y10 y11 ay10 by10 ay11 by11 i39_0 hn39
      refine z_iload_n F dX12_isWord_39 rfl (q := 2) rfl ?_
      refine z_if_eq (tgt := 82) F dX12_isWord_40 (by decide +kernel) (by omega) (fun c12 => ?_) (fun c12 => by exfalso; omega)
      refine z_iload_n F dX12_isWord_82 rfl (q := 2) rfl ?_
      exact hret _ _ 83 _ ⟨by omega, by omega⟩ ⟨hI, hW⟩ ⟨⟨by omega, by omega⟩, rfl, (by omega)⟩ dX12_isWord_83
  · refine z_aload_n F dX12_isWord_7 rfl (q := 0) rfl ?_
    refine gf_X12_88 F hI gs_131 rfl bd_131_10 dX12_isWord_8 (fun v13 ev13 av13 bv13 => ?_)
    have zv13 : u4 = v13 := eu4.trans ev13.symm
    subst zv13
    refine z_iconst F dX12_isWord_11 ?_
    refine z_icmp_ne (tgt := 35) F dX12_isWord_12 (by decide +kernel) (by omega) (by omega) (fun c14 => ?_) (fun c14 => ?_)
    · refine z_iconst F dX12_isWord_35 ?_
      refine z_istore_n F dX12_isWord_36 rfl (by decide) (ls' := [(2, ii 0), (0, .ref (ad 131)), (1, .ref (ad 1066))]) rfl ?_
      refine z_iconst F dX12_isWord_37 ?_
      refine z_istore_n F dX12_isWord_38 rfl (by decide) (ls' := [(3, ii 0), (2, ii 0), (0, .ref (ad 131)), (1, .ref (ad 1066))]) rfl ?_
      refine z_loc [2, 3, 1, 0] (ls' := [(0, .ref (ad 131)), (1, .ref (ad 1066)), (2, ii 0), (3, ii 0)]) rfl ?_
      suffices key39 : ∀ (n : Nat) (y16 : Int) (y17 : Int), 0 ≤ y16 → y16 ≤ 0 → 0 ≤ y17 → y17 ≤ 0 → (y16 = 1 → M 131 12 = 0 ∧ M 131 10 = 1 ∧ M 131 8 - M 131 9 = 4) → 0 < (n : Int) → Z D cy ad p l e (RMh 5) s m args below meth c A 4 0 0 Q 39 [(0, .ref (ad 131)), (1, .ref (ad 1066)), (2, ii y16), (3, ii y17)] [] M from key39 1 0 0 (by omega) (by omega) (by omega) (by omega) (by omega) (by omega)
      intro n39
      induction n39 with
      | zero => intro y16 y17 ay16 by16 ay17 by17 i39_0 hn39; exfalso; omega
      | succ n39 ih39 =>
        intro y16 y17 ay16 by16 ay17 by17 i39_0 hn39
        refine z_iload_n F dX12_isWord_39 rfl (q := 2) rfl ?_
        refine z_if_eq (tgt := 82) F dX12_isWord_40 (by decide +kernel) (by omega) (fun c18 => ?_) (fun c18 => by exfalso; omega)
        refine z_iload_n F dX12_isWord_82 rfl (q := 2) rfl ?_
        exact hret _ _ 83 _ ⟨by omega, by omega⟩ ⟨hI, hW⟩ ⟨⟨by omega, by omega⟩, rfl, (by omega)⟩ dX12_isWord_83
    · refine z_aload_n F dX12_isWord_15 rfl (q := 0) rfl ?_
      refine gf_X12_82 F hI gs_131 rfl bd_131_8 dX12_isWord_16 (fun v19 ev19 av19 bv19 => ?_)
      have zv19 : u2 = v19 := eu2.trans ev19.symm
      subst zv19
      refine z_aload_n F dX12_isWord_19 rfl (q := 0) rfl ?_
      refine gf_X12_85 F hI gs_131 rfl bd_131_9 dX12_isWord_20 (fun v20 ev20 av20 bv20 => ?_)
      have zv20 : u3 = v20 := eu3.trans ev20.symm
      subst zv20
      refine z_isub F dX12_isWord_23 ?_
      refine z_aload_n F dX12_isWord_24 rfl (q := 1) rfl ?_
      refine zvs_i (i := 66) (rest := [ii (u2 - u3)]) F (kS_len l M ⟨hI, hW⟩ 66 (by decide)) cs_X12_114 (by decide) (by decide) (by decide) rfl rfl rfl (Nat.le_of_ble_eq_true rfl) dX12_isWord_25 (fun v21 M9 rv21 hI9 pv21 => ?_)
      obtain ⟨ev21, rfl⟩ := pv21
      obtain rfl : v21 = 4 := ev21.trans (show ((sbyt.getD 66 []).length : Int) = 4 from by decide)
      clear hI9
      refine z_icmp_ne (tgt := 35) F dX12_isWord_28 (by decide +kernel) (by omega) (by omega) (fun c22 => ?_) (fun c22 => ?_)
      · refine z_iconst F dX12_isWord_35 ?_
        refine z_istore_n F dX12_isWord_36 rfl (by decide) (ls' := [(2, ii 0), (0, .ref (ad 131)), (1, .ref (ad 1066))]) rfl ?_
        refine z_iconst F dX12_isWord_37 ?_
        refine z_istore_n F dX12_isWord_38 rfl (by decide) (ls' := [(3, ii 0), (2, ii 0), (0, .ref (ad 131)), (1, .ref (ad 1066))]) rfl ?_
        refine z_loc [2, 3, 1, 0] (ls' := [(0, .ref (ad 131)), (1, .ref (ad 1066)), (2, ii 0), (3, ii 0)]) rfl ?_
        suffices key39 : ∀ (n : Nat) (y24 : Int) (y25 : Int), 0 ≤ y24 → y24 ≤ 0 → 0 ≤ y25 → y25 ≤ 0 → (y24 = 1 → M 131 12 = 0 ∧ M 131 10 = 1 ∧ M 131 8 - M 131 9 = 4) → 0 < (n : Int) → Z D cy ad p l e (RMh 5) s m args below meth c A 4 0 0 Q 39 [(0, .ref (ad 131)), (1, .ref (ad 1066)), (2, ii y24), (3, ii y25)] [] M from key39 1 0 0 (by omega) (by omega) (by omega) (by omega) (by omega) (by omega)
        intro n39
        induction n39 with
        | zero => intro y24 y25 ay24 by24 ay25 by25 i39_0 hn39; exfalso; omega
        | succ n39 ih39 =>
          intro y24 y25 ay24 by24 ay25 by25 i39_0 hn39
          refine z_iload_n F dX12_isWord_39 rfl (q := 2) rfl ?_
          refine z_if_eq (tgt := 82) F dX12_isWord_40 (by decide +kernel) (by omega) (fun c26 => ?_) (fun c26 => by exfalso; omega)
          refine z_iload_n F dX12_isWord_82 rfl (q := 2) rfl ?_
          exact hret _ _ 83 _ ⟨by omega, by omega⟩ ⟨hI, hW⟩ ⟨⟨by omega, by omega⟩, rfl, (by omega)⟩ dX12_isWord_83
      · refine z_iconst F dX12_isWord_31 ?_
        refine z_goto (tgt := 36) F dX12_isWord_32 (by decide +kernel) ?_
        refine z_istore_n F dX12_isWord_36 rfl (by decide) (ls' := [(2, ii 1), (0, .ref (ad 131)), (1, .ref (ad 1066))]) rfl ?_
        refine z_iconst F dX12_isWord_37 ?_
        refine z_istore_n F dX12_isWord_38 rfl (by decide) (ls' := [(3, ii 0), (2, ii 1), (0, .ref (ad 131)), (1, .ref (ad 1066))]) rfl ?_
        refine z_loc [2, 3, 1, 0] (ls' := [(0, .ref (ad 131)), (1, .ref (ad 1066)), (2, ii 1), (3, ii 0)]) rfl ?_
        suffices key39 : ∀ (n : Nat) (y28 : Int) (y29 : Int), 0 ≤ y28 → y28 ≤ 1 → 0 ≤ y29 → y29 ≤ 4 → (y28 = 1 → M 131 12 = 0 ∧ M 131 10 = 1 ∧ M 131 8 - M 131 9 = 4) → 4 - y29 < (n : Int) → Z D cy ad p l e (RMh 5) s m args below meth c A 4 0 0 Q 39 [(0, .ref (ad 131)), (1, .ref (ad 1066)), (2, ii y28), (3, ii y29)] [] M from key39 5 1 0 (by omega) (by omega) (by omega) (by omega) (by omega) (by omega)
        intro n39
        induction n39 with
        | zero => intro y28 y29 ay28 by28 ay29 by29 i39_0 hn39; exfalso; omega
        | succ n39 ih39 =>
          intro y28 y29 ay28 by28 ay29 by29 i39_0 hn39
          refine z_iload_n F dX12_isWord_39 rfl (q := 2) rfl ?_
          refine z_if_eq (tgt := 82) F dX12_isWord_40 (by decide +kernel) (by omega) (fun c30 => ?_) (fun c30 => ?_)
          · refine z_iload_n F dX12_isWord_82 rfl (q := 2) rfl ?_
            exact hret _ _ 83 _ ⟨by omega, by omega⟩ ⟨hI, hW⟩ ⟨⟨by omega, by omega⟩, rfl, (by omega)⟩ dX12_isWord_83
          · refine z_iload_n F dX12_isWord_43 rfl (q := 3) rfl ?_
            refine z_aload_n F dX12_isWord_44 rfl (q := 1) rfl ?_
            refine zvs_i (i := 66) (rest := [ii y29]) F (kS_len l M ⟨hI, hW⟩ 66 (by decide)) cs_X12_114 (by decide) (by decide) (by decide) rfl rfl rfl (Nat.le_of_ble_eq_true rfl) dX12_isWord_45 (fun v31 M9 rv31 hI9 pv31 => ?_)
            obtain ⟨ev31, rfl⟩ := pv31
            obtain rfl : v31 = 4 := ev31.trans (show ((sbyt.getD 66 []).length : Int) = 4 from by decide)
            clear hI9
            refine z_icmp_ge (tgt := 82) F dX12_isWord_48 (by decide +kernel) (by omega) (by omega) (fun c32 => ?_) (fun c32 => ?_)
            · refine z_iload_n F dX12_isWord_82 rfl (q := 2) rfl ?_
              exact hret _ _ 83 _ ⟨by omega, by omega⟩ ⟨hI, hW⟩ ⟨⟨by omega, by omega⟩, rfl, (by omega)⟩ dX12_isWord_83
            · refine z_aload_n F dX12_isWord_51 rfl (q := 0) rfl ?_
              refine rf_X12_23 F gs_131 rfl dX12_isWord_52 ?_
              refine z_aload_n F dX12_isWord_55 rfl (q := 0) rfl ?_
              refine gf_X12_85 F hI gs_131 rfl bd_131_9 dX12_isWord_56 (fun v33 ev33 av33 bv33 => ?_)
              have zv33 : u3 = v33 := eu3.trans ev33.symm
              subst zv33
              refine z_iload_n F dX12_isWord_59 rfl (q := 3) rfl ?_
              refine z_iadd F dX12_isWord_60 ?_
              have k34 : 0 ≤ (u3 + y29) ∧ (u3 + y29) ≤ 899 := by omega
              refine z_iald F hI gs_136 (by omega) (by omega) (by decide) bd_136 dX12_isWord_61 (fun v35 (ev35 : v35 = M 136 _) av35 bv35 => ?_)
              refine z_aload_n F dX12_isWord_62 rfl (q := 1) rfl ?_
              refine z_iload_n F dX12_isWord_63 rfl (q := 3) rfl ?_
              refine zvs_i (i := 66) (rest := [ii v35]) F (kS_chr l M ⟨hI, hW⟩ 66 (by decide) y29 (by omega) (show y29 < ((sbyt.getD 66 []).length : Int) from by rw [show ((sbyt.getD 66 []).length : Int) = 4 from by decide]; omega)) cs_X12_119 (by decide) (by decide) (by decide) rfl rfl rfl (Nat.le_of_ble_eq_true rfl) dX12_isWord_64 (fun v36 M9 rv36 hI9 pv36 => ?_)
              obtain ⟨⟨av36, bv36⟩, rfl⟩ := pv36
              clear hI9
              refine z_icmp_ne (tgt := 74) F dX12_isWord_67 (by decide +kernel) (by omega) (by omega) (fun c37 => ?_) (fun c37 => ?_)
              · refine z_iconst F dX12_isWord_74 ?_
                refine z_istore_n F dX12_isWord_75 rfl (by decide) (ls' := [(2, ii 0), (0, .ref (ad 131)), (1, .ref (ad 1066)), (3, ii y29)]) rfl ?_
                refine z_iincN F dX12_isWord_76 (q := 3) rfl (by decide) (fun v38 ev38 => ?_)
                refine z_eq (ls' := [(3, ii v38), (2, ii 0), (0, .ref (ad 131)), (1, .ref (ad 1066))]) rfl rfl rfl ?_
                refine z_goto (tgt := 39) F dX12_isWord_79 (by decide +kernel) ?_
                refine z_loc [2, 3, 1, 0] (ls' := [(0, .ref (ad 131)), (1, .ref (ad 1066)), (2, ii 0), (3, ii v38)]) rfl ?_
                exact ih39 0 v38 (by omega) (by omega) (by omega) (by omega) (by omega) (by omega)
              · refine z_iconst F dX12_isWord_70 ?_
                refine z_goto (tgt := 75) F dX12_isWord_71 (by decide +kernel) ?_
                refine z_istore_n F dX12_isWord_75 rfl (by decide) (ls' := [(2, ii 1), (0, .ref (ad 131)), (1, .ref (ad 1066)), (3, ii y29)]) rfl ?_
                refine z_iincN F dX12_isWord_76 (q := 3) rfl (by decide) (fun v39 ev39 => ?_)
                refine z_eq (ls' := [(3, ii v39), (2, ii 1), (0, .ref (ad 131)), (1, .ref (ad 1066))]) rfl rfl rfl ?_
                refine z_goto (tgt := 39) F dX12_isWord_79 (by decide +kernel) ?_
                refine z_loc [2, 3, 1, 0] (ls' := [(0, .ref (ad 131)), (1, .ref (ad 1066)), (2, ii 1), (3, ii v39)]) rfl ?_
                exact ih39 1 v39 (by omega) (by omega) (by omega) (by omega) (by omega) (by omega)
set_option maxHeartbeats 4000000 in
set_option maxRecDepth 4000 in
theorem kp_X12_isWord_131_1067 (l : Launch) (M : Mem) (hJ : Iw M) (hp0 : 0 ≤ M 131 9 ∧ M 131 9 ≤ M 131 8 ∧ M 131 8 ≤ M 131 7 ∧ M 131 7 ≤ 900 ∧ (M 131 10 = 0 ∨ M 131 9 < M 131 8)) : CI l yX12_isWord cX12_isWord 4 (some .boolean) 5 (fun ad => [.ref (ad 131), .ref (ad 1067)]) M (fun z M' => (0 ≤ z ∧ z ≤ 1) ∧ M = M' ∧ (z = 1 → M 131 12 = 0 ∧ M 131 10 = 1)) := by
  obtain ⟨hI, hW⟩ := hJ
  refine en_z (by decide +kernel) (fun ad => by exact Nat.le_of_ble_eq_true rfl) (fun D cy ad A p e s m args below meth c Q F hret => ?_)
  refine z_eq (ls' := [(0, .ref (ad 131)), (1, .ref (ad 1067))]) rfl rfl rfl ?_
  obtain ⟨u1, eu1⟩ : ∃ v : Int, v = M 131 7 := ⟨_, rfl⟩
  have ku1 : 0 ≤ u1 ∧ u1 ≤ 900 := by have := hI.at (show Bd 131 7 = (0, 900) from rfl); omega
  obtain ⟨u2, eu2⟩ : ∃ v : Int, v = M 131 8 := ⟨_, rfl⟩
  have ku2 : 0 ≤ u2 ∧ u2 ≤ 900 := by have := hI.at (show Bd 131 8 = (0, 900) from rfl); omega
  obtain ⟨u3, eu3⟩ : ∃ v : Int, v = M 131 9 := ⟨_, rfl⟩
  have ku3 : 0 ≤ u3 ∧ u3 ≤ 900 := by have := hI.at (show Bd 131 9 = (0, 900) from rfl); omega
  obtain ⟨u4, eu4⟩ : ∃ v : Int, v = M 131 10 := ⟨_, rfl⟩
  have ku4 : (-2147483648) ≤ u4 ∧ u4 ≤ 2147483647 := by have := hI.at (show Bd 131 10 = (-2147483648, 2147483647) from rfl); omega
  obtain ⟨u5, eu5⟩ : ∃ v : Int, v = M 131 12 := ⟨_, rfl⟩
  have ku5 : 0 ≤ u5 ∧ u5 ≤ 4 := by have := hI.at (show Bd 131 12 = (0, 4) from rfl); omega
  obtain ⟨u6, eu6⟩ : ∃ v : Int, v = M 131 16 := ⟨_, rfl⟩
  have ku6 : (-2147483648) ≤ u6 ∧ u6 ≤ 2147483647 := by have := hI.at (show Bd 131 16 = (-2147483648, 2147483647) from rfl); omega
  refine z_aload_n F dX12_isWord_0 rfl (q := 0) rfl ?_
  refine gf_X12_108 F hI gs_131 rfl bd_131_12 dX12_isWord_1 (fun v7 ev7 av7 bv7 => ?_)
  have zv7 : u5 = v7 := eu5.trans ev7.symm
  subst zv7
  refine z_if_ne (tgt := 35) F dX12_isWord_4 (by decide +kernel) (by omega) (fun c8 => ?_) (fun c8 => ?_)
  · refine z_iconst F dX12_isWord_35 ?_
    refine z_istore_n F dX12_isWord_36 rfl (by decide) (ls' := [(2, ii 0), (0, .ref (ad 131)), (1, .ref (ad 1067))]) rfl ?_
    refine z_iconst F dX12_isWord_37 ?_
    refine z_istore_n F dX12_isWord_38 rfl (by decide) (ls' := [(3, ii 0), (2, ii 0), (0, .ref (ad 131)), (1, .ref (ad 1067))]) rfl ?_
    refine z_loc [2, 3, 1, 0] (ls' := [(0, .ref (ad 131)), (1, .ref (ad 1067)), (2, ii 0), (3, ii 0)]) rfl ?_
    suffices key39 : ∀ (n : Nat) (y10 : Int) (y11 : Int), 0 ≤ y10 → y10 ≤ 0 → 0 ≤ y11 → y11 ≤ 0 → (y10 = 1 → M 131 12 = 0 ∧ M 131 10 = 1 ∧ M 131 8 - M 131 9 = 4) → 0 < (n : Int) → Z D cy ad p l e (RMh 5) s m args below meth c A 4 0 0 Q 39 [(0, .ref (ad 131)), (1, .ref (ad 1067)), (2, ii y10), (3, ii y11)] [] M from key39 1 0 0 (by omega) (by omega) (by omega) (by omega) (by omega) (by omega)
    intro n39
    induction n39 with
    | zero => intro y10 y11 ay10 by10 ay11 by11 i39_0 hn39; exfalso; omega
    | succ n39 ih39 =>
      intro y10 y11 ay10 by10 ay11 by11 i39_0 hn39
      refine z_iload_n F dX12_isWord_39 rfl (q := 2) rfl ?_
      refine z_if_eq (tgt := 82) F dX12_isWord_40 (by decide +kernel) (by omega) (fun c12 => ?_) (fun c12 => by exfalso; omega)
      refine z_iload_n F dX12_isWord_82 rfl (q := 2) rfl ?_
      exact hret _ _ 83 _ ⟨by omega, by omega⟩ ⟨hI, hW⟩ ⟨⟨by omega, by omega⟩, rfl, (by omega)⟩ dX12_isWord_83
  · refine z_aload_n F dX12_isWord_7 rfl (q := 0) rfl ?_
    refine gf_X12_88 F hI gs_131 rfl bd_131_10 dX12_isWord_8 (fun v13 ev13 av13 bv13 => ?_)
    have zv13 : u4 = v13 := eu4.trans ev13.symm
    subst zv13
    refine z_iconst F dX12_isWord_11 ?_
    refine z_icmp_ne (tgt := 35) F dX12_isWord_12 (by decide +kernel) (by omega) (by omega) (fun c14 => ?_) (fun c14 => ?_)
    · refine z_iconst F dX12_isWord_35 ?_
      refine z_istore_n F dX12_isWord_36 rfl (by decide) (ls' := [(2, ii 0), (0, .ref (ad 131)), (1, .ref (ad 1067))]) rfl ?_
      refine z_iconst F dX12_isWord_37 ?_
      refine z_istore_n F dX12_isWord_38 rfl (by decide) (ls' := [(3, ii 0), (2, ii 0), (0, .ref (ad 131)), (1, .ref (ad 1067))]) rfl ?_
      refine z_loc [2, 3, 1, 0] (ls' := [(0, .ref (ad 131)), (1, .ref (ad 1067)), (2, ii 0), (3, ii 0)]) rfl ?_
      suffices key39 : ∀ (n : Nat) (y16 : Int) (y17 : Int), 0 ≤ y16 → y16 ≤ 0 → 0 ≤ y17 → y17 ≤ 0 → (y16 = 1 → M 131 12 = 0 ∧ M 131 10 = 1 ∧ M 131 8 - M 131 9 = 4) → 0 < (n : Int) → Z D cy ad p l e (RMh 5) s m args below meth c A 4 0 0 Q 39 [(0, .ref (ad 131)), (1, .ref (ad 1067)), (2, ii y16), (3, ii y17)] [] M from key39 1 0 0 (by omega) (by omega) (by omega) (by omega) (by omega) (by omega)
      intro n39
      induction n39 with
      | zero => intro y16 y17 ay16 by16 ay17 by17 i39_0 hn39; exfalso; omega
      | succ n39 ih39 =>
        intro y16 y17 ay16 by16 ay17 by17 i39_0 hn39
        refine z_iload_n F dX12_isWord_39 rfl (q := 2) rfl ?_
        refine z_if_eq (tgt := 82) F dX12_isWord_40 (by decide +kernel) (by omega) (fun c18 => ?_) (fun c18 => by exfalso; omega)
        refine z_iload_n F dX12_isWord_82 rfl (q := 2) rfl ?_
        exact hret _ _ 83 _ ⟨by omega, by omega⟩ ⟨hI, hW⟩ ⟨⟨by omega, by omega⟩, rfl, (by omega)⟩ dX12_isWord_83
    · refine z_aload_n F dX12_isWord_15 rfl (q := 0) rfl ?_
      refine gf_X12_82 F hI gs_131 rfl bd_131_8 dX12_isWord_16 (fun v19 ev19 av19 bv19 => ?_)
      have zv19 : u2 = v19 := eu2.trans ev19.symm
      subst zv19
      refine z_aload_n F dX12_isWord_19 rfl (q := 0) rfl ?_
      refine gf_X12_85 F hI gs_131 rfl bd_131_9 dX12_isWord_20 (fun v20 ev20 av20 bv20 => ?_)
      have zv20 : u3 = v20 := eu3.trans ev20.symm
      subst zv20
      refine z_isub F dX12_isWord_23 ?_
      refine z_aload_n F dX12_isWord_24 rfl (q := 1) rfl ?_
      refine zvs_i (i := 67) (rest := [ii (u2 - u3)]) F (kS_len l M ⟨hI, hW⟩ 67 (by decide)) cs_X12_114 (by decide) (by decide) (by decide) rfl rfl rfl (Nat.le_of_ble_eq_true rfl) dX12_isWord_25 (fun v21 M9 rv21 hI9 pv21 => ?_)
      obtain ⟨ev21, rfl⟩ := pv21
      obtain rfl : v21 = 4 := ev21.trans (show ((sbyt.getD 67 []).length : Int) = 4 from by decide)
      clear hI9
      refine z_icmp_ne (tgt := 35) F dX12_isWord_28 (by decide +kernel) (by omega) (by omega) (fun c22 => ?_) (fun c22 => ?_)
      · refine z_iconst F dX12_isWord_35 ?_
        refine z_istore_n F dX12_isWord_36 rfl (by decide) (ls' := [(2, ii 0), (0, .ref (ad 131)), (1, .ref (ad 1067))]) rfl ?_
        refine z_iconst F dX12_isWord_37 ?_
        refine z_istore_n F dX12_isWord_38 rfl (by decide) (ls' := [(3, ii 0), (2, ii 0), (0, .ref (ad 131)), (1, .ref (ad 1067))]) rfl ?_
        refine z_loc [2, 3, 1, 0] (ls' := [(0, .ref (ad 131)), (1, .ref (ad 1067)), (2, ii 0), (3, ii 0)]) rfl ?_
        suffices key39 : ∀ (n : Nat) (y24 : Int) (y25 : Int), 0 ≤ y24 → y24 ≤ 0 → 0 ≤ y25 → y25 ≤ 0 → (y24 = 1 → M 131 12 = 0 ∧ M 131 10 = 1 ∧ M 131 8 - M 131 9 = 4) → 0 < (n : Int) → Z D cy ad p l e (RMh 5) s m args below meth c A 4 0 0 Q 39 [(0, .ref (ad 131)), (1, .ref (ad 1067)), (2, ii y24), (3, ii y25)] [] M from key39 1 0 0 (by omega) (by omega) (by omega) (by omega) (by omega) (by omega)
        intro n39
        induction n39 with
        | zero => intro y24 y25 ay24 by24 ay25 by25 i39_0 hn39; exfalso; omega
        | succ n39 ih39 =>
          intro y24 y25 ay24 by24 ay25 by25 i39_0 hn39
          refine z_iload_n F dX12_isWord_39 rfl (q := 2) rfl ?_
          refine z_if_eq (tgt := 82) F dX12_isWord_40 (by decide +kernel) (by omega) (fun c26 => ?_) (fun c26 => by exfalso; omega)
          refine z_iload_n F dX12_isWord_82 rfl (q := 2) rfl ?_
          exact hret _ _ 83 _ ⟨by omega, by omega⟩ ⟨hI, hW⟩ ⟨⟨by omega, by omega⟩, rfl, (by omega)⟩ dX12_isWord_83
      · refine z_iconst F dX12_isWord_31 ?_
        refine z_goto (tgt := 36) F dX12_isWord_32 (by decide +kernel) ?_
        refine z_istore_n F dX12_isWord_36 rfl (by decide) (ls' := [(2, ii 1), (0, .ref (ad 131)), (1, .ref (ad 1067))]) rfl ?_
        refine z_iconst F dX12_isWord_37 ?_
        refine z_istore_n F dX12_isWord_38 rfl (by decide) (ls' := [(3, ii 0), (2, ii 1), (0, .ref (ad 131)), (1, .ref (ad 1067))]) rfl ?_
        refine z_loc [2, 3, 1, 0] (ls' := [(0, .ref (ad 131)), (1, .ref (ad 1067)), (2, ii 1), (3, ii 0)]) rfl ?_
        suffices key39 : ∀ (n : Nat) (y28 : Int) (y29 : Int), 0 ≤ y28 → y28 ≤ 1 → 0 ≤ y29 → y29 ≤ 4 → (y28 = 1 → M 131 12 = 0 ∧ M 131 10 = 1 ∧ M 131 8 - M 131 9 = 4) → 4 - y29 < (n : Int) → Z D cy ad p l e (RMh 5) s m args below meth c A 4 0 0 Q 39 [(0, .ref (ad 131)), (1, .ref (ad 1067)), (2, ii y28), (3, ii y29)] [] M from key39 5 1 0 (by omega) (by omega) (by omega) (by omega) (by omega) (by omega)
        intro n39
        induction n39 with
        | zero => intro y28 y29 ay28 by28 ay29 by29 i39_0 hn39; exfalso; omega
        | succ n39 ih39 =>
          intro y28 y29 ay28 by28 ay29 by29 i39_0 hn39
          refine z_iload_n F dX12_isWord_39 rfl (q := 2) rfl ?_
          refine z_if_eq (tgt := 82) F dX12_isWord_40 (by decide +kernel) (by omega) (fun c30 => ?_) (fun c30 => ?_)
          · refine z_iload_n F dX12_isWord_82 rfl (q := 2) rfl ?_
            exact hret _ _ 83 _ ⟨by omega, by omega⟩ ⟨hI, hW⟩ ⟨⟨by omega, by omega⟩, rfl, (by omega)⟩ dX12_isWord_83
          · refine z_iload_n F dX12_isWord_43 rfl (q := 3) rfl ?_
            refine z_aload_n F dX12_isWord_44 rfl (q := 1) rfl ?_
            refine zvs_i (i := 67) (rest := [ii y29]) F (kS_len l M ⟨hI, hW⟩ 67 (by decide)) cs_X12_114 (by decide) (by decide) (by decide) rfl rfl rfl (Nat.le_of_ble_eq_true rfl) dX12_isWord_45 (fun v31 M9 rv31 hI9 pv31 => ?_)
            obtain ⟨ev31, rfl⟩ := pv31
            obtain rfl : v31 = 4 := ev31.trans (show ((sbyt.getD 67 []).length : Int) = 4 from by decide)
            clear hI9
            refine z_icmp_ge (tgt := 82) F dX12_isWord_48 (by decide +kernel) (by omega) (by omega) (fun c32 => ?_) (fun c32 => ?_)
            · refine z_iload_n F dX12_isWord_82 rfl (q := 2) rfl ?_
              exact hret _ _ 83 _ ⟨by omega, by omega⟩ ⟨hI, hW⟩ ⟨⟨by omega, by omega⟩, rfl, (by omega)⟩ dX12_isWord_83
            · refine z_aload_n F dX12_isWord_51 rfl (q := 0) rfl ?_
              refine rf_X12_23 F gs_131 rfl dX12_isWord_52 ?_
              refine z_aload_n F dX12_isWord_55 rfl (q := 0) rfl ?_
              refine gf_X12_85 F hI gs_131 rfl bd_131_9 dX12_isWord_56 (fun v33 ev33 av33 bv33 => ?_)
              have zv33 : u3 = v33 := eu3.trans ev33.symm
              subst zv33
              refine z_iload_n F dX12_isWord_59 rfl (q := 3) rfl ?_
              refine z_iadd F dX12_isWord_60 ?_
              have k34 : 0 ≤ (u3 + y29) ∧ (u3 + y29) ≤ 899 := by omega
              refine z_iald F hI gs_136 (by omega) (by omega) (by decide) bd_136 dX12_isWord_61 (fun v35 (ev35 : v35 = M 136 _) av35 bv35 => ?_)
              refine z_aload_n F dX12_isWord_62 rfl (q := 1) rfl ?_
              refine z_iload_n F dX12_isWord_63 rfl (q := 3) rfl ?_
              refine zvs_i (i := 67) (rest := [ii v35]) F (kS_chr l M ⟨hI, hW⟩ 67 (by decide) y29 (by omega) (show y29 < ((sbyt.getD 67 []).length : Int) from by rw [show ((sbyt.getD 67 []).length : Int) = 4 from by decide]; omega)) cs_X12_119 (by decide) (by decide) (by decide) rfl rfl rfl (Nat.le_of_ble_eq_true rfl) dX12_isWord_64 (fun v36 M9 rv36 hI9 pv36 => ?_)
              obtain ⟨⟨av36, bv36⟩, rfl⟩ := pv36
              clear hI9
              refine z_icmp_ne (tgt := 74) F dX12_isWord_67 (by decide +kernel) (by omega) (by omega) (fun c37 => ?_) (fun c37 => ?_)
              · refine z_iconst F dX12_isWord_74 ?_
                refine z_istore_n F dX12_isWord_75 rfl (by decide) (ls' := [(2, ii 0), (0, .ref (ad 131)), (1, .ref (ad 1067)), (3, ii y29)]) rfl ?_
                refine z_iincN F dX12_isWord_76 (q := 3) rfl (by decide) (fun v38 ev38 => ?_)
                refine z_eq (ls' := [(3, ii v38), (2, ii 0), (0, .ref (ad 131)), (1, .ref (ad 1067))]) rfl rfl rfl ?_
                refine z_goto (tgt := 39) F dX12_isWord_79 (by decide +kernel) ?_
                refine z_loc [2, 3, 1, 0] (ls' := [(0, .ref (ad 131)), (1, .ref (ad 1067)), (2, ii 0), (3, ii v38)]) rfl ?_
                exact ih39 0 v38 (by omega) (by omega) (by omega) (by omega) (by omega) (by omega)
              · refine z_iconst F dX12_isWord_70 ?_
                refine z_goto (tgt := 75) F dX12_isWord_71 (by decide +kernel) ?_
                refine z_istore_n F dX12_isWord_75 rfl (by decide) (ls' := [(2, ii 1), (0, .ref (ad 131)), (1, .ref (ad 1067)), (3, ii y29)]) rfl ?_
                refine z_iincN F dX12_isWord_76 (q := 3) rfl (by decide) (fun v39 ev39 => ?_)
                refine z_eq (ls' := [(3, ii v39), (2, ii 1), (0, .ref (ad 131)), (1, .ref (ad 1067))]) rfl rfl rfl ?_
                refine z_goto (tgt := 39) F dX12_isWord_79 (by decide +kernel) ?_
                refine z_loc [2, 3, 1, 0] (ls' := [(0, .ref (ad 131)), (1, .ref (ad 1067)), (2, ii 1), (3, ii v39)]) rfl ?_
                exact ih39 1 v39 (by omega) (by omega) (by omega) (by omega) (by omega) (by omega)
