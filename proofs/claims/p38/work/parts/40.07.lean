theorem dX12_readEvent_0 : decode cX12_readEvent 0 = .ok (.aload_n 0, 1) := by decide +kernel
theorem dX12_readEvent_1 : decode cX12_readEvent 1 = .ok (.iconst 4, 1) := by decide +kernel
theorem dX12_readEvent_10 : decode cX12_readEvent 10 = .ok (.return_, 1) := by decide +kernel
theorem dX12_readEvent_101 : decode cX12_readEvent 101 = .ok (.iconst 4, 1) := by decide +kernel
theorem dX12_readEvent_102 : decode cX12_readEvent 102 = .ok (.iaload, 1) := by decide +kernel
theorem dX12_readEvent_103 : decode cX12_readEvent 103 = .ok (.imul, 1) := by decide +kernel
theorem dX12_readEvent_104 : decode cX12_readEvent 104 = .ok (.iadd, 1) := by decide +kernel
theorem dX12_readEvent_105 : decode cX12_readEvent 105 = .ok (.istore 5, 2) := by decide +kernel
theorem dX12_readEvent_107 : decode cX12_readEvent 107 = .ok (.aload_n 0, 1) := by decide +kernel
theorem dX12_readEvent_108 : decode cX12_readEvent 108 = .ok (.getfield 13, 3) := by decide +kernel
theorem dX12_readEvent_11 : decode cX12_readEvent 11 = .ok (.aload_n 0, 1) := by decide +kernel
theorem dX12_readEvent_111 : decode cX12_readEvent 111 = .ok (.iload 5, 2) := by decide +kernel
theorem dX12_readEvent_113 : decode cX12_readEvent 113 = .ok (.iload_n 1, 1) := by decide +kernel
theorem dX12_readEvent_114 : decode cX12_readEvent 114 = .ok (.iastore, 1) := by decide +kernel
theorem dX12_readEvent_115 : decode cX12_readEvent 115 = .ok (.aload_n 0, 1) := by decide +kernel
theorem dX12_readEvent_116 : decode cX12_readEvent 116 = .ok (.getfield 13, 3) := by decide +kernel
theorem dX12_readEvent_119 : decode cX12_readEvent 119 = .ok (.iload 5, 2) := by decide +kernel
theorem dX12_readEvent_12 : decode cX12_readEvent 12 = .ok (.iconst 0, 1) := by decide +kernel
theorem dX12_readEvent_121 : decode cX12_readEvent 121 = .ok (.iconst 1, 1) := by decide +kernel
theorem dX12_readEvent_122 : decode cX12_readEvent 122 = .ok (.iadd, 1) := by decide +kernel
theorem dX12_readEvent_123 : decode cX12_readEvent 123 = .ok (.iload_n 2, 1) := by decide +kernel
theorem dX12_readEvent_124 : decode cX12_readEvent 124 = .ok (.iastore, 1) := by decide +kernel
theorem dX12_readEvent_125 : decode cX12_readEvent 125 = .ok (.aload_n 0, 1) := by decide +kernel
theorem dX12_readEvent_126 : decode cX12_readEvent 126 = .ok (.getfield 13, 3) := by decide +kernel
theorem dX12_readEvent_129 : decode cX12_readEvent 129 = .ok (.iload 5, 2) := by decide +kernel
theorem dX12_readEvent_13 : decode cX12_readEvent 13 = .ok (.sipush 999, 3) := by decide +kernel
theorem dX12_readEvent_131 : decode cX12_readEvent 131 = .ok (.iconst 2, 1) := by decide +kernel
theorem dX12_readEvent_132 : decode cX12_readEvent 132 = .ok (.iadd, 1) := by decide +kernel
theorem dX12_readEvent_133 : decode cX12_readEvent 133 = .ok (.iload_n 3, 1) := by decide +kernel
theorem dX12_readEvent_134 : decode cX12_readEvent 134 = .ok (.ifCond .eq 9, 3) := by decide +kernel
theorem dX12_readEvent_137 : decode cX12_readEvent 137 = .ok (.iload 4, 2) := by decide +kernel
theorem dX12_readEvent_139 : decode cX12_readEvent 139 = .ok (.ineg, 1) := by decide +kernel
theorem dX12_readEvent_140 : decode cX12_readEvent 140 = .ok (.goto 5, 3) := by decide +kernel
theorem dX12_readEvent_143 : decode cX12_readEvent 143 = .ok (.iload 4, 2) := by decide +kernel
theorem dX12_readEvent_145 : decode cX12_readEvent 145 = .ok (.iastore, 1) := by decide +kernel
theorem dX12_readEvent_146 : decode cX12_readEvent 146 = .ok (.aload_n 0, 1) := by decide +kernel
theorem dX12_readEvent_147 : decode cX12_readEvent 147 = .ok (.getfield 13, 3) := by decide +kernel
theorem dX12_readEvent_150 : decode cX12_readEvent 150 = .ok (.iconst 4, 1) := by decide +kernel
theorem dX12_readEvent_151 : decode cX12_readEvent 151 = .ok (.dup2, 1) := by decide +kernel
theorem dX12_readEvent_152 : decode cX12_readEvent 152 = .ok (.iaload, 1) := by decide +kernel
theorem dX12_readEvent_153 : decode cX12_readEvent 153 = .ok (.iconst 1, 1) := by decide +kernel
theorem dX12_readEvent_154 : decode cX12_readEvent 154 = .ok (.iadd, 1) := by decide +kernel
theorem dX12_readEvent_155 : decode cX12_readEvent 155 = .ok (.iastore, 1) := by decide +kernel
theorem dX12_readEvent_156 : decode cX12_readEvent 156 = .ok (.return_, 1) := by decide +kernel
theorem dX12_readEvent_16 : decode cX12_readEvent 16 = .ok (.invokevirtual 199, 3) := by decide +kernel
theorem dX12_readEvent_19 : decode cX12_readEvent 19 = .ok (.istore_n 1, 1) := by decide +kernel
theorem dX12_readEvent_2 : decode cX12_readEvent 2 = .ok (.bipush 6, 2) := by decide +kernel
theorem dX12_readEvent_20 : decode cX12_readEvent 20 = .ok (.aload_n 0, 1) := by decide +kernel
theorem dX12_readEvent_21 : decode cX12_readEvent 21 = .ok (.ldc 225, 2) := by decide +kernel
theorem dX12_readEvent_23 : decode cX12_readEvent 23 = .ok (.invokevirtual 215, 3) := by decide +kernel
theorem dX12_readEvent_26 : decode cX12_readEvent 26 = .ok (.aload_n 0, 1) := by decide +kernel
theorem dX12_readEvent_27 : decode cX12_readEvent 27 = .ok (.iconst 0, 1) := by decide +kernel
theorem dX12_readEvent_28 : decode cX12_readEvent 28 = .ok (.aload_n 0, 1) := by decide +kernel
theorem dX12_readEvent_29 : decode cX12_readEvent 29 = .ok (.getfield 13, 3) := by decide +kernel
theorem dX12_readEvent_32 : decode cX12_readEvent 32 = .ok (.iconst 2, 1) := by decide +kernel
theorem dX12_readEvent_33 : decode cX12_readEvent 33 = .ok (.iaload, 1) := by decide +kernel
theorem dX12_readEvent_34 : decode cX12_readEvent 34 = .ok (.iconst 1, 1) := by decide +kernel
theorem dX12_readEvent_35 : decode cX12_readEvent 35 = .ok (.isub, 1) := by decide +kernel
theorem dX12_readEvent_36 : decode cX12_readEvent 36 = .ok (.invokevirtual 199, 3) := by decide +kernel
theorem dX12_readEvent_39 : decode cX12_readEvent 39 = .ok (.istore_n 2, 1) := by decide +kernel
theorem dX12_readEvent_4 : decode cX12_readEvent 4 = .ok (.invokevirtual 203, 3) := by decide +kernel
theorem dX12_readEvent_40 : decode cX12_readEvent 40 = .ok (.aload_n 0, 1) := by decide +kernel
theorem dX12_readEvent_41 : decode cX12_readEvent 41 = .ok (.ldc 227, 2) := by decide +kernel
theorem dX12_readEvent_43 : decode cX12_readEvent 43 = .ok (.invokevirtual 123, 3) := by decide +kernel
theorem dX12_readEvent_46 : decode cX12_readEvent 46 = .ok (.istore_n 3, 1) := by decide +kernel
theorem dX12_readEvent_47 : decode cX12_readEvent 47 = .ok (.iload_n 3, 1) := by decide +kernel
theorem dX12_readEvent_48 : decode cX12_readEvent 48 = .ok (.ifCond .ne 17, 3) := by decide +kernel
theorem dX12_readEvent_51 : decode cX12_readEvent 51 = .ok (.aload_n 0, 1) := by decide +kernel
theorem dX12_readEvent_52 : decode cX12_readEvent 52 = .ok (.ldc 229, 2) := by decide +kernel
theorem dX12_readEvent_54 : decode cX12_readEvent 54 = .ok (.invokevirtual 123, 3) := by decide +kernel
theorem dX12_readEvent_57 : decode cX12_readEvent 57 = .ok (.ifCond .ne 8, 3) := by decide +kernel
theorem dX12_readEvent_60 : decode cX12_readEvent 60 = .ok (.aload_n 0, 1) := by decide +kernel
theorem dX12_readEvent_61 : decode cX12_readEvent 61 = .ok (.iconst 2, 1) := by decide +kernel
theorem dX12_readEvent_62 : decode cX12_readEvent 62 = .ok (.invokevirtual 133, 3) := by decide +kernel
theorem dX12_readEvent_65 : decode cX12_readEvent 65 = .ok (.aload_n 0, 1) := by decide +kernel
theorem dX12_readEvent_66 : decode cX12_readEvent 66 = .ok (.getfield 108, 3) := by decide +kernel
theorem dX12_readEvent_69 : decode cX12_readEvent 69 = .ok (.ifCond .ne 7, 3) := by decide +kernel
theorem dX12_readEvent_7 : decode cX12_readEvent 7 = .ok (.ifCond .ne 4, 3) := by decide +kernel
theorem dX12_readEvent_72 : decode cX12_readEvent 72 = .ok (.aload_n 0, 1) := by decide +kernel
theorem dX12_readEvent_73 : decode cX12_readEvent 73 = .ok (.invokevirtual 127, 3) := by decide +kernel
theorem dX12_readEvent_76 : decode cX12_readEvent 76 = .ok (.aload_n 0, 1) := by decide +kernel
theorem dX12_readEvent_77 : decode cX12_readEvent 77 = .ok (.iconst 1, 1) := by decide +kernel
theorem dX12_readEvent_78 : decode cX12_readEvent 78 = .ok (.bipush 9, 2) := by decide +kernel
theorem dX12_readEvent_80 : decode cX12_readEvent 80 = .ok (.invokevirtual 199, 3) := by decide +kernel
theorem dX12_readEvent_83 : decode cX12_readEvent 83 = .ok (.istore 4, 2) := by decide +kernel
theorem dX12_readEvent_85 : decode cX12_readEvent 85 = .ok (.aload_n 0, 1) := by decide +kernel
theorem dX12_readEvent_86 : decode cX12_readEvent 86 = .ok (.getfield 108, 3) := by decide +kernel
theorem dX12_readEvent_89 : decode cX12_readEvent 89 = .ok (.ifCond .eq 4, 3) := by decide +kernel
theorem dX12_readEvent_92 : decode cX12_readEvent 92 = .ok (.return_, 1) := by decide +kernel
theorem dX12_readEvent_93 : decode cX12_readEvent 93 = .ok (.sipush 150, 3) := by decide +kernel
theorem dX12_readEvent_96 : decode cX12_readEvent 96 = .ok (.iconst 3, 1) := by decide +kernel
theorem dX12_readEvent_97 : decode cX12_readEvent 97 = .ok (.aload_n 0, 1) := by decide +kernel
theorem dX12_readEvent_98 : decode cX12_readEvent 98 = .ok (.getfield 13, 3) := by decide +kernel
set_option maxRecDepth 4000 in
theorem kp_X12_isWord_131_1060 (l : Launch) (M : Mem) (hJ : Iw M) (hp0 : M 131 9 ≤ M 131 8 ∧ M 131 8 ≤ M 131 7 ∧ (M 131 10 = 0 ∨ M 131 9 < M 131 8)) : CI l yX12_isWord cX12_isWord 4 (some .boolean) 5 (fun ad => [.ref (ad 131), .ref (ad 1060)]) M (fun z M' => (0 ≤ z ∧ z ≤ 1) ∧ M = M' ∧ (z = 1 → M 131 12 = 0 ∧ M 131 10 = 1)) := by
  obtain ⟨hI, hW⟩ := hJ
  refine en_z (by decide +kernel) (fun ad => by exact Nat.le_of_ble_eq_true rfl) (fun D cy ad A p e s m args below meth c Q F hret => ?_)
  refine z_eq (ls' := [(0, .ref (ad 131)), (1, .ref (ad 1060))]) rfl rfl rfl ?_
  obtain ⟨u1, eu1⟩ : ∃ v : Int, v = M 131 7 := ⟨_, rfl⟩
  have ku1 : 0 ≤ u1 ∧ u1 ≤ 900 := by have := hI.at (show Bd 131 7 = (0, 900) from rfl); omega
  obtain ⟨u2, eu2⟩ : ∃ v : Int, v = M 131 8 := ⟨_, rfl⟩
  have ku2 : 0 ≤ u2 ∧ u2 ≤ 900 := by have := hI.at (show Bd 131 8 = (0, 900) from rfl); omega
  obtain ⟨u3, eu3⟩ : ∃ v : Int, v = M 131 9 := ⟨_, rfl⟩
  have ku3 : 0 ≤ u3 ∧ u3 ≤ 900 := by have := hI.at (show Bd 131 9 = (0, 900) from rfl); omega
  obtain ⟨u4, eu4⟩ : ∃ v : Int, v = M 131 10 := ⟨_, rfl⟩
  have ku4 : (-2147483648) ≤ u4 ∧ u4 ≤ 2147483647 := by have := hI.at (show Bd 131 10 = (-2147483648, 2147483647) from rfl); omega
  obtain ⟨u5, eu5⟩ : ∃ v : Int, v = M 131 12 := ⟨_, rfl⟩
  have ku5 : 0 ≤ u5 ∧ u5 ≤ 4 := by have := hI.at (show Bd 131 12 = (0, 4) from rfl); omega
  obtain ⟨u6, eu6⟩ : ∃ v : Int, v = M 131 16 := ⟨_, rfl⟩
  have ku6 : (-2147483648) ≤ u6 ∧ u6 ≤ 2147483647 := by have := hI.at (show Bd 131 16 = (-2147483648, 2147483647) from rfl); omega
  refine z_aload_n F dX12_isWord_0 rfl (q := 0) rfl ?_
  refine gf_X12_108 F hI gs_131 rfl bd_131_12 dX12_isWord_1 (fun v7 ev7 av7 bv7 => ?_)
  have zv7 : u5 = v7 := eu5.trans ev7.symm
  subst zv7
  refine z_if_ne (tgt := 35) F dX12_isWord_4 (by decide +kernel) (by omega) (fun c8 => ?_) (fun c8 => ?_)
  · refine z_iconst F dX12_isWord_35 ?_
    refine z_istore_n F dX12_isWord_36 rfl (by decide) (ls' := [(2, ii 0), (0, .ref (ad 131)), (1, .ref (ad 1060))]) rfl ?_
    refine z_iconst F dX12_isWord_37 ?_
    refine z_istore_n F dX12_isWord_38 rfl (by decide) (ls' := [(3, ii 0), (2, ii 0), (0, .ref (ad 131)), (1, .ref (ad 1060))]) rfl ?_
    refine z_loc [2, 3, 1, 0] (ls' := [(0, .ref (ad 131)), (1, .ref (ad 1060)), (2, ii 0), (3, ii 0)]) rfl ?_
    suffices key39 : ∀ (n : Nat) (y10 : Int) (y11 : Int), 0 ≤ y10 → y10 ≤ 0 → 0 ≤ y11 → y11 ≤ 0 → (y10 = 1 → M 131 12 = 0 ∧ M 131 10 = 1 ∧ M 131 8 - M 131 9 = 5) → 0 < (n : Int) → Z D cy ad p l e (RMh 5) s m args below meth c A 4 0 0 Q 39 [(0, .ref (ad 131)), (1, .ref (ad 1060)), (2, ii y10), (3, ii y11)] [] M from key39 1 0 0 (by omega) (by omega) (by omega) (by omega) (by omega) (by omega)
    intro n39
    induction n39 with
    | zero => intro y10 y11 ay10 by10 ay11 by11 i39_0 hn39; exfalso; omega
    | succ n39 ih39 =>
      intro y10 y11 ay10 by10 ay11 by11 i39_0 hn39
      refine z_iload_n F dX12_isWord_39 rfl (q := 2) rfl ?_
      refine z_if_eq (tgt := 82) F dX12_isWord_40 (by decide +kernel) (by omega) (fun c12 => ?_) (fun c12 => by exfalso; omega)
      refine z_iload_n F dX12_isWord_82 rfl (q := 2) rfl ?_
      exact hret _ _ 83 _ ⟨by omega, by omega⟩ ⟨hI, hW⟩ ⟨⟨by omega, by omega⟩, rfl, (by omega)⟩ dX12_isWord_83
  · refine z_aload_n F dX12_isWord_7 rfl (q := 0) rfl ?_
    refine gf_X12_88 F hI gs_131 rfl bd_131_10 dX12_isWord_8 (fun v13 ev13 av13 bv13 => ?_)
    have zv13 : u4 = v13 := eu4.trans ev13.symm
    subst zv13
    refine z_iconst F dX12_isWord_11 ?_
    refine z_icmp_ne (tgt := 35) F dX12_isWord_12 (by decide +kernel) (by omega) (by omega) (fun c14 => ?_) (fun c14 => ?_)
    · refine z_iconst F dX12_isWord_35 ?_
      refine z_istore_n F dX12_isWord_36 rfl (by decide) (ls' := [(2, ii 0), (0, .ref (ad 131)), (1, .ref (ad 1060))]) rfl ?_
      refine z_iconst F dX12_isWord_37 ?_
      refine z_istore_n F dX12_isWord_38 rfl (by decide) (ls' := [(3, ii 0), (2, ii 0), (0, .ref (ad 131)), (1, .ref (ad 1060))]) rfl ?_
      refine z_loc [2, 3, 1, 0] (ls' := [(0, .ref (ad 131)), (1, .ref (ad 1060)), (2, ii 0), (3, ii 0)]) rfl ?_
      suffices key39 : ∀ (n : Nat) (y16 : Int) (y17 : Int), 0 ≤ y16 → y16 ≤ 0 → 0 ≤ y17 → y17 ≤ 0 → (y16 = 1 → M 131 12 = 0 ∧ M 131 10 = 1 ∧ M 131 8 - M 131 9 = 5) → 0 < (n : Int) → Z D cy ad p l e (RMh 5) s m args below meth c A 4 0 0 Q 39 [(0, .ref (ad 131)), (1, .ref (ad 1060)), (2, ii y16), (3, ii y17)] [] M from key39 1 0 0 (by omega) (by omega) (by omega) (by omega) (by omega) (by omega)
      intro n39
      induction n39 with
      | zero => intro y16 y17 ay16 by16 ay17 by17 i39_0 hn39; exfalso; omega
      | succ n39 ih39 =>
        intro y16 y17 ay16 by16 ay17 by17 i39_0 hn39
        refine z_iload_n F dX12_isWord_39 rfl (q := 2) rfl ?_
        refine z_if_eq (tgt := 82) F dX12_isWord_40 (by decide +kernel) (by omega) (fun c18 => ?_) (fun c18 => by exfalso; omega)
        refine z_iload_n F dX12_isWord_82 rfl (q := 2) rfl ?_
        exact hret _ _ 83 _ ⟨by omega, by omega⟩ ⟨hI, hW⟩ ⟨⟨by omega, by omega⟩, rfl, (by omega)⟩ dX12_isWord_83
    · refine z_aload_n F dX12_isWord_15 rfl (q := 0) rfl ?_
      refine gf_X12_82 F hI gs_131 rfl bd_131_8 dX12_isWord_16 (fun v19 ev19 av19 bv19 => ?_)
      have zv19 : u2 = v19 := eu2.trans ev19.symm
      subst zv19
      refine z_aload_n F dX12_isWord_19 rfl (q := 0) rfl ?_
      refine gf_X12_85 F hI gs_131 rfl bd_131_9 dX12_isWord_20 (fun v20 ev20 av20 bv20 => ?_)
      have zv20 : u3 = v20 := eu3.trans ev20.symm
      subst zv20
      refine z_isub F dX12_isWord_23 ?_
      refine z_aload_n F dX12_isWord_24 rfl (q := 1) rfl ?_
      refine zvs_i (i := 60) (rest := [ii (u2 - u3)]) F (kS_len l M ⟨hI, hW⟩ 60 (by decide)) cs_X12_114 (by decide) (by decide) (by decide) rfl rfl rfl (Nat.le_of_ble_eq_true rfl) dX12_isWord_25 (fun v21 M9 rv21 hI9 pv21 => ?_)
      obtain ⟨ev21, rfl⟩ := pv21
      obtain rfl : v21 = 5 := ev21.trans (show ((sbyt.getD 60 []).length : Int) = 5 from by decide)
      clear hI9
      refine z_icmp_ne (tgt := 35) F dX12_isWord_28 (by decide +kernel) (by omega) (by omega) (fun c22 => ?_) (fun c22 => ?_)
      · refine z_iconst F dX12_isWord_35 ?_
        refine z_istore_n F dX12_isWord_36 rfl (by decide) (ls' := [(2, ii 0), (0, .ref (ad 131)), (1, .ref (ad 1060))]) rfl ?_
        refine z_iconst F dX12_isWord_37 ?_
        refine z_istore_n F dX12_isWord_38 rfl (by decide) (ls' := [(3, ii 0), (2, ii 0), (0, .ref (ad 131)), (1, .ref (ad 1060))]) rfl ?_
        refine z_loc [2, 3, 1, 0] (ls' := [(0, .ref (ad 131)), (1, .ref (ad 1060)), (2, ii 0), (3, ii 0)]) rfl ?_
        suffices key39 : ∀ (n : Nat) (y24 : Int) (y25 : Int), 0 ≤ y24 → y24 ≤ 0 → 0 ≤ y25 → y25 ≤ 0 → (y24 = 1 → M 131 12 = 0 ∧ M 131 10 = 1 ∧ M 131 8 - M 131 9 = 5) → 0 < (n : Int) → Z D cy ad p l e (RMh 5) s m args below meth c A 4 0 0 Q 39 [(0, .ref (ad 131)), (1, .ref (ad 1060)), (2, ii y24), (3, ii y25)] [] M from key39 1 0 0 (by omega) (by omega) (by omega) (by omega) (by omega) (by omega)
        intro n39
        induction n39 with
        | zero => intro y24 y25 ay24 by24 ay25 by25 i39_0 hn39; exfalso; omega
        | succ n39 ih39 =>
          intro y24 y25 ay24 by24 ay25 by25 i39_0 hn39
          refine z_iload_n F dX12_isWord_39 rfl (q := 2) rfl ?_
          refine z_if_eq (tgt := 82) F dX12_isWord_40 (by decide +kernel) (by omega) (fun c26 => ?_) (fun c26 => by exfalso; omega)
          refine z_iload_n F dX12_isWord_82 rfl (q := 2) rfl ?_
          exact hret _ _ 83 _ ⟨by omega, by omega⟩ ⟨hI, hW⟩ ⟨⟨by omega, by omega⟩, rfl, (by omega)⟩ dX12_isWord_83
      · refine z_iconst F dX12_isWord_31 ?_
        refine z_goto (tgt := 36) F dX12_isWord_32 (by decide +kernel) ?_
        refine z_istore_n F dX12_isWord_36 rfl (by decide) (ls' := [(2, ii 1), (0, .ref (ad 131)), (1, .ref (ad 1060))]) rfl ?_
        refine z_iconst F dX12_isWord_37 ?_
        refine z_istore_n F dX12_isWord_38 rfl (by decide) (ls' := [(3, ii 0), (2, ii 1), (0, .ref (ad 131)), (1, .ref (ad 1060))]) rfl ?_
        refine z_loc [2, 3, 1, 0] (ls' := [(0, .ref (ad 131)), (1, .ref (ad 1060)), (2, ii 1), (3, ii 0)]) rfl ?_
        suffices key39 : ∀ (n : Nat) (y28 : Int) (y29 : Int), 0 ≤ y28 → y28 ≤ 1 → 0 ≤ y29 → y29 ≤ 5 → (y28 = 1 → M 131 12 = 0 ∧ M 131 10 = 1 ∧ M 131 8 - M 131 9 = 5) → 5 - y29 < (n : Int) → Z D cy ad p l e (RMh 5) s m args below meth c A 4 0 0 Q 39 [(0, .ref (ad 131)), (1, .ref (ad 1060)), (2, ii y28), (3, ii y29)] [] M from key39 6 1 0 (by omega) (by omega) (by omega) (by omega) (by omega) (by omega)
        intro n39
        induction n39 with
        | zero => intro y28 y29 ay28 by28 ay29 by29 i39_0 hn39; exfalso; omega
        | succ n39 ih39 =>
          intro y28 y29 ay28 by28 ay29 by29 i39_0 hn39
          refine z_iload_n F dX12_isWord_39 rfl (q := 2) rfl ?_
          refine z_if_eq (tgt := 82) F dX12_isWord_40 (by decide +kernel) (by omega) (fun c30 => ?_) (fun c30 => ?_)
          · refine z_iload_n F dX12_isWord_82 rfl (q := 2) rfl ?_
            exact hret _ _ 83 _ ⟨by omega, by omega⟩ ⟨hI, hW⟩ ⟨⟨by omega, by omega⟩, rfl, (by omega)⟩ dX12_isWord_83
          · refine z_iload_n F dX12_isWord_43 rfl (q := 3) rfl ?_
            refine z_aload_n F dX12_isWord_44 rfl (q := 1) rfl ?_
            refine zvs_i (i := 60) (rest := [ii y29]) F (kS_len l M ⟨hI, hW⟩ 60 (by decide)) cs_X12_114 (by decide) (by decide) (by decide) rfl rfl rfl (Nat.le_of_ble_eq_true rfl) dX12_isWord_45 (fun v31 M9 rv31 hI9 pv31 => ?_)
            obtain ⟨ev31, rfl⟩ := pv31
            obtain rfl : v31 = 5 := ev31.trans (show ((sbyt.getD 60 []).length : Int) = 5 from by decide)
            clear hI9
            refine z_icmp_ge (tgt := 82) F dX12_isWord_48 (by decide +kernel) (by omega) (by omega) (fun c32 => ?_) (fun c32 => ?_)
            · refine z_iload_n F dX12_isWord_82 rfl (q := 2) rfl ?_
              exact hret _ _ 83 _ ⟨by omega, by omega⟩ ⟨hI, hW⟩ ⟨⟨by omega, by omega⟩, rfl, (by omega)⟩ dX12_isWord_83
            · refine z_aload_n F dX12_isWord_51 rfl (q := 0) rfl ?_
              refine rf_X12_23 F gs_131 rfl dX12_isWord_52 ?_
              refine z_aload_n F dX12_isWord_55 rfl (q := 0) rfl ?_
              refine gf_X12_85 F hI gs_131 rfl bd_131_9 dX12_isWord_56 (fun v33 ev33 av33 bv33 => ?_)
              have zv33 : u3 = v33 := eu3.trans ev33.symm
              subst zv33
              refine z_iload_n F dX12_isWord_59 rfl (q := 3) rfl ?_
              refine z_iadd F dX12_isWord_60 ?_
              have k34 : 0 ≤ (u3 + y29) ∧ (u3 + y29) ≤ 899 := by omega
              refine z_iald F hI gs_136 (by omega) (by omega) (by decide) bd_136 dX12_isWord_61 (fun v35 (ev35 : v35 = M 136 _) av35 bv35 => ?_)
              refine z_aload_n F dX12_isWord_62 rfl (q := 1) rfl ?_
              refine z_iload_n F dX12_isWord_63 rfl (q := 3) rfl ?_
              refine zvs_i (i := 60) (rest := [ii v35]) F (kS_chr l M ⟨hI, hW⟩ 60 (by decide) y29 (by omega) (show y29 < ((sbyt.getD 60 []).length : Int) from by rw [show ((sbyt.getD 60 []).length : Int) = 5 from by decide]; omega)) cs_X12_119 (by decide) (by decide) (by decide) rfl rfl rfl (Nat.le_of_ble_eq_true rfl) dX12_isWord_64 (fun v36 M9 rv36 hI9 pv36 => ?_)
              obtain ⟨⟨av36, bv36⟩, rfl⟩ := pv36
              clear hI9
              refine z_icmp_ne (tgt := 74) F dX12_isWord_67 (by decide +kernel) (by omega) (by omega) (fun c37 => ?_) (fun c37 => ?_)
              · refine z_iconst F dX12_isWord_74 ?_
                refine z_istore_n F dX12_isWord_75 rfl (by decide) (ls' := [(2, ii 0), (0, .ref (ad 131)), (1, .ref (ad 1060)), (3, ii y29)]) rfl ?_
                refine z_iincN F dX12_isWord_76 (q := 3) rfl (by decide) (fun v38 ev38 => ?_)
                refine z_eq (ls' := [(3, ii v38), (2, ii 0), (0, .ref (ad 131)), (1, .ref (ad 1060))]) rfl rfl rfl ?_
                refine z_goto (tgt := 39) F dX12_isWord_79 (by decide +kernel) ?_
                refine z_loc [2, 3, 1, 0] (ls' := [(0, .ref (ad 131)), (1, .ref (ad 1060)), (2, ii 0), (3, ii v38)]) rfl ?_
                exact ih39 0 v38 (by omega) (by omega) (by omega) (by omega) (by omega) (by omega)
              · refine z_iconst F dX12_isWord_70 ?_
                refine z_goto (tgt := 75) F dX12_isWord_71 (by decide +kernel) ?_
                refine z_istore_n F dX12_isWord_75 rfl (by decide) (ls' := [(2, ii 1), (0, .ref (ad 131)), (1, .ref (ad 1060)), (3, ii y29)]) rfl ?_
                refine z_iincN F dX12_isWord_76 (q := 3) rfl (by decide) (fun v39 ev39 => ?_)
                refine z_eq (ls' := [(3, ii v39), (2, ii 1), (0, .ref (ad 131)), (1, .ref (ad 1060))]) rfl rfl rfl ?_
                refine z_goto (tgt := 39) F dX12_isWord_79 (by decide +kernel) ?_
                refine z_loc [2, 3, 1, 0] (ls' := [(0, .ref (ad 131)), (1, .ref (ad 1060)), (2, ii 1), (3, ii v39)]) rfl ?_
                exact ih39 1 v39 (by omega) (by omega) (by omega) (by omega) (by omega) (by omega)
set_option maxRecDepth 4000 in
theorem kp_X12_took_131_1060 (l : Launch) (M : Mem) (hJ : Iw M) (hp0 : M 131 9 ≤ M 131 8 ∧ M 131 8 ≤ M 131 7 ∧ (M 131 10 = 0 ∨ M 131 9 < M 131 8)) : CI l yX12_took cX12_took 3 (some .boolean) 6 (fun ad => [.ref (ad 131), .ref (ad 1060)]) M (fun z M' => (0 ≤ z ∧ z ≤ 1) ∧ Fr [131] M M' ∧ (M' 131 7 = M 131 7 ∧ M' 131 16 = M 131 16 ∧ M 131 9 ≤ M' 131 9 ∧ M' 131 9 ≤ M' 131 8 ∧ M' 131 8 ≤ M' 131 7 ∧ (M' 131 10 = 0 ∨ M' 131 9 < M' 131 8) ∧ M' 131 12 = M 131 12 ∧ (z = 1 → M 131 12 = 0 ∧ M 131 9 < M' 131 9))) := by
  obtain ⟨hI, hW⟩ := hJ
  have hF : Fr [131] M M := Fr.rf
  refine en_z (by decide +kernel) (fun ad => by exact Nat.le_of_ble_eq_true rfl) (fun D cy ad A p e s m args below meth c Q F hret => ?_)
  refine z_eq (ls' := [(0, .ref (ad 131)), (1, .ref (ad 1060))]) rfl rfl rfl ?_
  refine z_aload_n F dX12_took_0 rfl (q := 0) rfl ?_
  refine z_aload_n F dX12_took_1 rfl (q := 1) rfl ?_
  refine zv_i (rest := []) F (kp_X12_isWord_131_1060 l M ⟨hI, hW⟩ (by omega)) cs_X12_123 (T := TX12) (N := 44) (ci := 12) rfl gs_131 (by decide) (by decide) rfl rfl rfl (Nat.le_of_ble_eq_true rfl) dX12_took_2 (fun v1 M2 rv1 hI p3 => ?_)
  obtain ⟨hI, hW⟩ := hI
  obtain ⟨⟨av1, bv1⟩, rfl, xp3⟩ := p3
  refine z_istore_n F dX12_took_5 rfl (by decide) (ls' := [(2, ii v1), (0, .ref (ad 131)), (1, .ref (ad 1060))]) rfl ?_
  refine z_iload_n F dX12_took_6 rfl (q := 0) rfl ?_
  refine z_if_eq (tgt := 14) F dX12_took_7 (by decide +kernel) (by omega) (fun c4 => ?_) (fun c4 => ?_)
  · refine z_iload_n F dX12_took_14 rfl (q := 0) rfl ?_
    exact hret _ _ 15 _ ⟨by omega, by omega⟩ ⟨hI, hW⟩ ⟨⟨by omega, by omega⟩, hF, (by omega)⟩ dX12_took_15
  · refine z_aload_n F dX12_took_10 rfl (q := 1) rfl ?_
    refine zv_v (rest := []) F (kp_X12_readsOn l M ⟨hI, hW⟩ (by omega)) cs_X12_127 (T := TX12) (N := 44) (ci := 12) rfl gs_131 (by decide) (by decide) rfl rfl rfl (Nat.le_of_ble_eq_true rfl) dX12_took_11 (fun M5 hI p6 => ?_)
    obtain ⟨hI, hW⟩ := hI
    obtain ⟨fp6, xp6⟩ := p6
    have hF := hF.call fp6 (by decide)
    have tM5_133_6 : M5 133 6 = M 133 6 := fp6.at (by decide)
    have tM5_133_1 : M5 133 1 = M 133 1 := fp6.at (by decide)
    refine z_iload_n F dX12_took_14 rfl (q := 0) rfl ?_
    exact hret _ _ 15 _ ⟨by omega, by omega⟩ ⟨hI, hW⟩ ⟨⟨by omega, by omega⟩, hF, (by omega)⟩ dX12_took_15
set_option maxRecDepth 4000 in
theorem kp_X12_mustWord_131_1060 (l : Launch) (M : Mem) (hJ : Iw M) (hp0 : M 131 9 ≤ M 131 8 ∧ M 131 8 ≤ M 131 7 ∧ (M 131 10 = 0 ∨ M 131 9 < M 131 8)) : CV l yX12_mustWord cX12_mustWord 2 none 7 (fun ad => [.ref (ad 131), .ref (ad 1060)]) M (fun M' => Fr [131] M M' ∧ (M' 131 7 = M 131 7 ∧ M' 131 16 = M 131 16 ∧ M 131 9 ≤ M' 131 9 ∧ M' 131 9 ≤ M' 131 8 ∧ M' 131 8 ≤ M' 131 7 ∧ (M' 131 10 = 0 ∨ M' 131 9 < M' 131 8) ∧ (M' 131 12 = 0 → M 131 12 = 0))) := by
  obtain ⟨hI, hW⟩ := hJ
  have hF : Fr [131] M M := Fr.rf
  refine en_v (by decide +kernel) (fun ad => by exact Nat.le_of_ble_eq_true rfl) (fun D cy ad A p e s m args below meth c Q F hret => ?_)
  refine z_eq (ls' := [(0, .ref (ad 131)), (1, .ref (ad 1060))]) rfl rfl rfl ?_
  refine z_aload_n F dX12_mustWord_0 rfl (q := 0) rfl ?_
  refine z_aload_n F dX12_mustWord_1 rfl (q := 1) rfl ?_
  refine zv_i (rest := []) F (kp_X12_took_131_1060 l M ⟨hI, hW⟩ (by omega)) cs_X12_130 (T := TX12) (N := 44) (ci := 12) rfl gs_131 (by decide) (by decide) rfl rfl rfl (Nat.le_of_ble_eq_true rfl) dX12_mustWord_2 (fun v1 M2 rv1 hI p3 => ?_)
  obtain ⟨hI, hW⟩ := hI
  obtain ⟨⟨av1, bv1⟩, fp3, xp3⟩ := p3
  have hF := hF.call fp3 (by decide)
  have tM2_133_6 : M2 133 6 = M 133 6 := fp3.at (by decide)
  have tM2_133_1 : M2 133 1 = M 133 1 := fp3.at (by decide)
  refine z_if_ne (tgt := 13) F dX12_mustWord_5 (by decide +kernel) (by omega) (fun c4 => ?_) (fun c4 => ?_)
  · exact hret _ 13 _ ⟨hI, hW⟩ ⟨hF, (by omega)⟩ dX12_mustWord_13
  · refine z_aload_n F dX12_mustWord_8 rfl (q := 0) rfl ?_
    refine z_iconst F dX12_mustWord_9 ?_
    refine zv_v (rest := []) F (kp_X12_blames l M2 ⟨hI, hW⟩ 2 (by omega) (by omega)) cs_X12_133 (T := TX12) (N := 44) (ci := 12) rfl gs_131 (by decide) (by decide) rfl rfl rfl (Nat.le_of_ble_eq_true rfl) dX12_mustWord_10 (fun M5 hI p6 => ?_)
    obtain ⟨hI, hW⟩ := hI
    obtain ⟨fp6, xp6⟩ := p6
    have hF := hF.call fp6 (by decide)
    have tM5_133_6 : M5 133 6 = M2 133 6 := fp6.at (by decide)
    have tM5_133_1 : M5 133 1 = M2 133 1 := fp6.at (by decide)
    exact hret _ 13 _ ⟨hI, hW⟩ ⟨hF, (by omega)⟩ dX12_mustWord_13
set_option maxRecDepth 4000 in
theorem kp_X12_isWord_131_1066 (l : Launch) (M : Mem) (hJ : Iw M) (hp0 : M 131 9 ≤ M 131 8 ∧ M 131 8 ≤ M 131 7 ∧ (M 131 10 = 0 ∨ M 131 9 < M 131 8)) : CI l yX12_isWord cX12_isWord 4 (some .boolean) 5 (fun ad => [.ref (ad 131), .ref (ad 1066)]) M (fun z M' => (0 ≤ z ∧ z ≤ 1) ∧ M = M' ∧ (z = 1 → M 131 12 = 0 ∧ M 131 10 = 1)) := by
  obtain ⟨hI, hW⟩ := hJ
  refine en_z (by decide +kernel) (fun ad => by exact Nat.le_of_ble_eq_true rfl) (fun D cy ad A p e s m args below meth c Q F hret => ?_)
  refine z_eq (ls' := [(0, .ref (ad 131)), (1, .ref (ad 1066))]) rfl rfl rfl ?_
  obtain ⟨u1, eu1⟩ : ∃ v : Int, v = M 131 7 := ⟨_, rfl⟩
  have ku1 : 0 ≤ u1 ∧ u1 ≤ 900 := by have := hI.at (show Bd 131 7 = (0, 900) from rfl); omega
  obtain ⟨u2, eu2⟩ : ∃ v : Int, v = M 131 8 := ⟨_, rfl⟩
  have ku2 : 0 ≤ u2 ∧ u2 ≤ 900 := by have := hI.at (show Bd 131 8 = (0, 900) from rfl); omega
  obtain ⟨u3, eu3⟩ : ∃ v : Int, v = M 131 9 := ⟨_, rfl⟩
  have ku3 : 0 ≤ u3 ∧ u3 ≤ 900 := by have := hI.at (show Bd 131 9 = (0, 900) from rfl); omega
  obtain ⟨u4, eu4⟩ : ∃ v : Int, v = M 131 10 := ⟨_, rfl⟩
  have ku4 : (-2147483648) ≤ u4 ∧ u4 ≤ 2147483647 := by have := hI.at (show Bd 131 10 = (-2147483648, 2147483647) from rfl); omega
  obtain ⟨u5, eu5⟩ : ∃ v : Int, v = M 131 12 := ⟨_, rfl⟩
  have ku5 : 0 ≤ u5 ∧ u5 ≤ 4 := by have := hI.at (show Bd 131 12 = (0, 4) from rfl); omega
  obtain ⟨u6, eu6⟩ : ∃ v : Int, v = M 131 16 := ⟨_, rfl⟩
  have ku6 : (-2147483648) ≤ u6 ∧ u6 ≤ 2147483647 := by have := hI.at (show Bd 131 16 = (-2147483648, 2147483647) from rfl); omega
  refine z_aload_n F dX12_isWord_0 rfl (q := 0) rfl ?_
  refine gf_X12_108 F hI gs_131 rfl bd_131_12 dX12_isWord_1 (fun v7 ev7 av7 bv7 => ?_)
  have zv7 : u5 = v7 := eu5.trans ev7.symm
  subst zv7
  refine z_if_ne (tgt := 35) F dX12_isWord_4 (by decide +kernel) (by omega) (fun c8 => ?_) (fun c8 => ?_)
  · refine z_iconst F dX12_isWord_35 ?_
    refine z_istore_n F dX12_isWord_36 rfl (by decide) (ls' := [(2, ii 0), (0, .ref (ad 131)), (1, .ref (ad 1066))]) rfl ?_
    refine z_iconst F dX12_isWord_37 ?_
    refine z_istore_n F dX12_isWord_38 rfl (by decide) (ls' := [(3, ii 0), (2, ii 0), (0, .ref (ad 131)), (1, .ref (ad 1066))]) rfl ?_
    refine z_loc [2, 3, 1, 0] (ls' := [(0, .ref (ad 131)), (1, .ref (ad 1066)), (2, ii 0), (3, ii 0)]) rfl ?_
    suffices key39 : ∀ (n : Nat) (y10 : Int) (y11 : Int), 0 ≤ y10 → y10 ≤ 0 → 0 ≤ y11 → y11 ≤ 0 → (y10 = 1 → M 131 12 = 0 ∧ M 131 10 = 1 ∧ M 131 8 - M 131 9 = 4) → 0 < (n : Int) → Z D cy ad p l e (RMh 5) s m args below meth c A 4 0 0 Q 39 [(0, .ref (ad 131)), (1, .ref (ad 1066)), (2, ii y10), (3, ii y11)] [] M from key39 1 0 0 (by omega) (by omega) (by omega) (by omega) (by omega) (by omega)
    intro n39
    induction n39 with
    | zero => intro y10 y11 ay10 by10 ay11 by11 i39_0 hn39; exfalso; omega
    | succ n39 ih39 =>
      intro y10 y11 ay10 by10 ay11 by11 i39_0 hn39
      refine z_iload_n F dX12_isWord_39 rfl (q := 2) rfl ?_
      refine z_if_eq (tgt := 82) F dX12_isWord_40 (by decide +kernel) (by omega) (fun c12 => ?_) (fun c12 => by exfalso; omega)
      refine z_iload_n F dX12_isWord_82 rfl (q := 2) rfl ?_
      exact hret _ _ 83 _ ⟨by omega, by omega⟩ ⟨hI, hW⟩ ⟨⟨by omega, by omega⟩, rfl, (by omega)⟩ dX12_isWord_83
  · refine z_aload_n F dX12_isWord_7 rfl (q := 0) rfl ?_
    refine gf_X12_88 F hI gs_131 rfl bd_131_10 dX12_isWord_8 (fun v13 ev13 av13 bv13 => ?_)
    have zv13 : u4 = v13 := eu4.trans ev13.symm
    subst zv13
    refine z_iconst F dX12_isWord_11 ?_
    refine z_icmp_ne (tgt := 35) F dX12_isWord_12 (by decide +kernel) (by omega) (by omega) (fun c14 => ?_) (fun c14 => ?_)
    · refine z_iconst F dX12_isWord_35 ?_
      refine z_istore_n F dX12_isWord_36 rfl (by decide) (ls' := [(2, ii 0), (0, .ref (ad 131)), (1, .ref (ad 1066))]) rfl ?_
      refine z_iconst F dX12_isWord_37 ?_
      refine z_istore_n F dX12_isWord_38 rfl (by decide) (ls' := [(3, ii 0), (2, ii 0), (0, .ref (ad 131)), (1, .ref (ad 1066))]) rfl ?_
      refine z_loc [2, 3, 1, 0] (ls' := [(0, .ref (ad 131)), (1, .ref (ad 1066)), (2, ii 0), (3, ii 0)]) rfl ?_
      suffices key39 : ∀ (n : Nat) (y16 : Int) (y17 : Int), 0 ≤ y16 → y16 ≤ 0 → 0 ≤ y17 → y17 ≤ 0 → (y16 = 1 → M 131 12 = 0 ∧ M 131 10 = 1 ∧ M 131 8 - M 131 9 = 4) → 0 < (n : Int) → Z D cy ad p l e (RMh 5) s m args below meth c A 4 0 0 Q 39 [(0, .ref (ad 131)), (1, .ref (ad 1066)), (2, ii y16), (3, ii y17)] [] M from key39 1 0 0 (by omega) (by omega) (by omega) (by omega) (by omega) (by omega)
      intro n39
      induction n39 with
      | zero => intro y16 y17 ay16 by16 ay17 by17 i39_0 hn39; exfalso; omega
      | succ n39 ih39 =>
        intro y16 y17 ay16 by16 ay17 by17 i39_0 hn39
        refine z_iload_n F dX12_isWord_39 rfl (q := 2) rfl ?_
        refine z_if_eq (tgt := 82) F dX12_isWord_40 (by decide +kernel) (by omega) (fun c18 => ?_) (fun c18 => by exfalso; omega)
        refine z_iload_n F dX12_isWord_82 rfl (q := 2) rfl ?_
        exact hret _ _ 83 _ ⟨by omega, by omega⟩ ⟨hI, hW⟩ ⟨⟨by omega, by omega⟩, rfl, (by omega)⟩ dX12_isWord_83
    · refine z_aload_n F dX12_isWord_15 rfl (q := 0) rfl ?_
      refine gf_X12_82 F hI gs_131 rfl bd_131_8 dX12_isWord_16 (fun v19 ev19 av19 bv19 => ?_)
      have zv19 : u2 = v19 := eu2.trans ev19.symm
      subst zv19
      refine z_aload_n F dX12_isWord_19 rfl (q := 0) rfl ?_
      refine gf_X12_85 F hI gs_131 rfl bd_131_9 dX12_isWord_20 (fun v20 ev20 av20 bv20 => ?_)
      have zv20 : u3 = v20 := eu3.trans ev20.symm
      subst zv20
      refine z_isub F dX12_isWord_23 ?_
      refine z_aload_n F dX12_isWord_24 rfl (q := 1) rfl ?_
      refine zvs_i (i := 66) (rest := [ii (u2 - u3)]) F (kS_len l M ⟨hI, hW⟩ 66 (by decide)) cs_X12_114 (by decide) (by decide) (by decide) rfl rfl rfl (Nat.le_of_ble_eq_true rfl) dX12_isWord_25 (fun v21 M9 rv21 hI9 pv21 => ?_)
      obtain ⟨ev21, rfl⟩ := pv21
      obtain rfl : v21 = 4 := ev21.trans (show ((sbyt.getD 66 []).length : Int) = 4 from by decide)
      clear hI9
      refine z_icmp_ne (tgt := 35) F dX12_isWord_28 (by decide +kernel) (by omega) (by omega) (fun c22 => ?_) (fun c22 => ?_)
      · refine z_iconst F dX12_isWord_35 ?_
        refine z_istore_n F dX12_isWord_36 rfl (by decide) (ls' := [(2, ii 0), (0, .ref (ad 131)), (1, .ref (ad 1066))]) rfl ?_
        refine z_iconst F dX12_isWord_37 ?_
        refine z_istore_n F dX12_isWord_38 rfl (by decide) (ls' := [(3, ii 0), (2, ii 0), (0, .ref (ad 131)), (1, .ref (ad 1066))]) rfl ?_
        refine z_loc [2, 3, 1, 0] (ls' := [(0, .ref (ad 131)), (1, .ref (ad 1066)), (2, ii 0), (3, ii 0)]) rfl ?_
        suffices key39 : ∀ (n : Nat) (y24 : Int) (y25 : Int), 0 ≤ y24 → y24 ≤ 0 → 0 ≤ y25 → y25 ≤ 0 → (y24 = 1 → M 131 12 = 0 ∧ M 131 10 = 1 ∧ M 131 8 - M 131 9 = 4) → 0 < (n : Int) → Z D cy ad p l e (RMh 5) s m args below meth c A 4 0 0 Q 39 [(0, .ref (ad 131)), (1, .ref (ad 1066)), (2, ii y24), (3, ii y25)] [] M from key39 1 0 0 (by omega) (by omega) (by omega) (by omega) (by omega) (by omega)
        intro n39
        induction n39 with
        | zero => intro y24 y25 ay24 by24 ay25 by25 i39_0 hn39; exfalso; omega
        | succ n39 ih39 =>
          intro y24 y25 ay24 by24 ay25 by25 i39_0 hn39
          refine z_iload_n F dX12_isWord_39 rfl (q := 2) rfl ?_
          refine z_if_eq (tgt := 82) F dX12_isWord_40 (by decide +kernel) (by omega) (fun c26 => ?_) (fun c26 => by exfalso; omega)
          refine z_iload_n F dX12_isWord_82 rfl (q := 2) rfl ?_
          exact hret _ _ 83 _ ⟨by omega, by omega⟩ ⟨hI, hW⟩ ⟨⟨by omega, by omega⟩, rfl, (by omega)⟩ dX12_isWord_83
      · refine z_iconst F dX12_isWord_31 ?_
        refine z_goto (tgt := 36) F dX12_isWord_32 (by decide +kernel) ?_
        refine z_istore_n F dX12_isWord_36 rfl (by decide) (ls' := [(2, ii 1), (0, .ref (ad 131)), (1, .ref (ad 1066))]) rfl ?_
        refine z_iconst F dX12_isWord_37 ?_
        refine z_istore_n F dX12_isWord_38 rfl (by decide) (ls' := [(3, ii 0), (2, ii 1), (0, .ref (ad 131)), (1, .ref (ad 1066))]) rfl ?_
        refine z_loc [2, 3, 1, 0] (ls' := [(0, .ref (ad 131)), (1, .ref (ad 1066)), (2, ii 1), (3, ii 0)]) rfl ?_
        suffices key39 : ∀ (n : Nat) (y28 : Int) (y29 : Int), 0 ≤ y28 → y28 ≤ 1 → 0 ≤ y29 → y29 ≤ 4 → (y28 = 1 → M 131 12 = 0 ∧ M 131 10 = 1 ∧ M 131 8 - M 131 9 = 4) → 4 - y29 < (n : Int) → Z D cy ad p l e (RMh 5) s m args below meth c A 4 0 0 Q 39 [(0, .ref (ad 131)), (1, .ref (ad 1066)), (2, ii y28), (3, ii y29)] [] M from key39 5 1 0 (by omega) (by omega) (by omega) (by omega) (by omega) (by omega)
        intro n39
        induction n39 with
        | zero => intro y28 y29 ay28 by28 ay29 by29 i39_0 hn39; exfalso; omega
        | succ n39 ih39 =>
          intro y28 y29 ay28 by28 ay29 by29 i39_0 hn39
          refine z_iload_n F dX12_isWord_39 rfl (q := 2) rfl ?_
          refine z_if_eq (tgt := 82) F dX12_isWord_40 (by decide +kernel) (by omega) (fun c30 => ?_) (fun c30 => ?_)
          · refine z_iload_n F dX12_isWord_82 rfl (q := 2) rfl ?_
            exact hret _ _ 83 _ ⟨by omega, by omega⟩ ⟨hI, hW⟩ ⟨⟨by omega, by omega⟩, rfl, (by omega)⟩ dX12_isWord_83
          · refine z_iload_n F dX12_isWord_43 rfl (q := 3) rfl ?_
            refine z_aload_n F dX12_isWord_44 rfl (q := 1) rfl ?_
            refine zvs_i (i := 66) (rest := [ii y29]) F (kS_len l M ⟨hI, hW⟩ 66 (by decide)) cs_X12_114 (by decide) (by decide) (by decide) rfl rfl rfl (Nat.le_of_ble_eq_true rfl) dX12_isWord_45 (fun v31 M9 rv31 hI9 pv31 => ?_)
            obtain ⟨ev31, rfl⟩ := pv31
            obtain rfl : v31 = 4 := ev31.trans (show ((sbyt.getD 66 []).length : Int) = 4 from by decide)
            clear hI9
            refine z_icmp_ge (tgt := 82) F dX12_isWord_48 (by decide +kernel) (by omega) (by omega) (fun c32 => ?_) (fun c32 => ?_)
            · refine z_iload_n F dX12_isWord_82 rfl (q := 2) rfl ?_
              exact hret _ _ 83 _ ⟨by omega, by omega⟩ ⟨hI, hW⟩ ⟨⟨by omega, by omega⟩, rfl, (by omega)⟩ dX12_isWord_83
            · refine z_aload_n F dX12_isWord_51 rfl (q := 0) rfl ?_
              refine rf_X12_23 F gs_131 rfl dX12_isWord_52 ?_
              refine z_aload_n F dX12_isWord_55 rfl (q := 0) rfl ?_
              refine gf_X12_85 F hI gs_131 rfl bd_131_9 dX12_isWord_56 (fun v33 ev33 av33 bv33 => ?_)
              have zv33 : u3 = v33 := eu3.trans ev33.symm
              subst zv33
              refine z_iload_n F dX12_isWord_59 rfl (q := 3) rfl ?_
              refine z_iadd F dX12_isWord_60 ?_
              have k34 : 0 ≤ (u3 + y29) ∧ (u3 + y29) ≤ 899 := by omega
              refine z_iald F hI gs_136 (by omega) (by omega) (by decide) bd_136 dX12_isWord_61 (fun v35 (ev35 : v35 = M 136 _) av35 bv35 => ?_)
              refine z_aload_n F dX12_isWord_62 rfl (q := 1) rfl ?_
              refine z_iload_n F dX12_isWord_63 rfl (q := 3) rfl ?_
              refine zvs_i (i := 66) (rest := [ii v35]) F (kS_chr l M ⟨hI, hW⟩ 66 (by decide) y29 (by omega) (show y29 < ((sbyt.getD 66 []).length : Int) from by rw [show ((sbyt.getD 66 []).length : Int) = 4 from by decide]; omega)) cs_X12_119 (by decide) (by decide) (by decide) rfl rfl rfl (Nat.le_of_ble_eq_true rfl) dX12_isWord_64 (fun v36 M9 rv36 hI9 pv36 => ?_)
              obtain ⟨⟨av36, bv36⟩, rfl⟩ := pv36
              clear hI9
              refine z_icmp_ne (tgt := 74) F dX12_isWord_67 (by decide +kernel) (by omega) (by omega) (fun c37 => ?_) (fun c37 => ?_)
              · refine z_iconst F dX12_isWord_74 ?_
                refine z_istore_n F dX12_isWord_75 rfl (by decide) (ls' := [(2, ii 0), (0, .ref (ad 131)), (1, .ref (ad 1066)), (3, ii y29)]) rfl ?_
                refine z_iincN F dX12_isWord_76 (q := 3) rfl (by decide) (fun v38 ev38 => ?_)
                refine z_eq (ls' := [(3, ii v38), (2, ii 0), (0, .ref (ad 131)), (1, .ref (ad 1066))]) rfl rfl rfl ?_
                refine z_goto (tgt := 39) F dX12_isWord_79 (by decide +kernel) ?_
                refine z_loc [2, 3, 1, 0] (ls' := [(0, .ref (ad 131)), (1, .ref (ad 1066)), (2, ii 0), (3, ii v38)]) rfl ?_
                exact ih39 0 v38 (by omega) (by omega) (by omega) (by omega) (by omega) (by omega)
              · refine z_iconst F dX12_isWord_70 ?_
                refine z_goto (tgt := 75) F dX12_isWord_71 (by decide +kernel) ?_
                refine z_istore_n F dX12_isWord_75 rfl (by decide) (ls' := [(2, ii 1), (0, .ref (ad 131)), (1, .ref (ad 1066)), (3, ii y29)]) rfl ?_
                refine z_iincN F dX12_isWord_76 (q := 3) rfl (by decide) (fun v39 ev39 => ?_)
                refine z_eq (ls' := [(3, ii v39), (2, ii 1), (0, .ref (ad 131)), (1, .ref (ad 1066))]) rfl rfl rfl ?_
                refine z_goto (tgt := 39) F dX12_isWord_79 (by decide +kernel) ?_
                refine z_loc [2, 3, 1, 0] (ls' := [(0, .ref (ad 131)), (1, .ref (ad 1066)), (2, ii 1), (3, ii v39)]) rfl ?_
                exact ih39 1 v39 (by omega) (by omega) (by omega) (by omega) (by omega) (by omega)
set_option maxRecDepth 4000 in
theorem kp_X12_isWord_131_1067 (l : Launch) (M : Mem) (hJ : Iw M) (hp0 : M 131 9 ≤ M 131 8 ∧ M 131 8 ≤ M 131 7 ∧ (M 131 10 = 0 ∨ M 131 9 < M 131 8)) : CI l yX12_isWord cX12_isWord 4 (some .boolean) 5 (fun ad => [.ref (ad 131), .ref (ad 1067)]) M (fun z M' => (0 ≤ z ∧ z ≤ 1) ∧ M = M' ∧ (z = 1 → M 131 12 = 0 ∧ M 131 10 = 1)) := by
  obtain ⟨hI, hW⟩ := hJ
  refine en_z (by decide +kernel) (fun ad => by exact Nat.le_of_ble_eq_true rfl) (fun D cy ad A p e s m args below meth c Q F hret => ?_)
  refine z_eq (ls' := [(0, .ref (ad 131)), (1, .ref (ad 1067))]) rfl rfl rfl ?_
  obtain ⟨u1, eu1⟩ : ∃ v : Int, v = M 131 7 := ⟨_, rfl⟩
  have ku1 : 0 ≤ u1 ∧ u1 ≤ 900 := by have := hI.at (show Bd 131 7 = (0, 900) from rfl); omega
  obtain ⟨u2, eu2⟩ : ∃ v : Int, v = M 131 8 := ⟨_, rfl⟩
  have ku2 : 0 ≤ u2 ∧ u2 ≤ 900 := by have := hI.at (show Bd 131 8 = (0, 900) from rfl); omega
  obtain ⟨u3, eu3⟩ : ∃ v : Int, v = M 131 9 := ⟨_, rfl⟩
  have ku3 : 0 ≤ u3 ∧ u3 ≤ 900 := by have := hI.at (show Bd 131 9 = (0, 900) from rfl); omega
  obtain ⟨u4, eu4⟩ : ∃ v : Int, v = M 131 10 := ⟨_, rfl⟩
  have ku4 : (-2147483648) ≤ u4 ∧ u4 ≤ 2147483647 := by have := hI.at (show Bd 131 10 = (-2147483648, 2147483647) from rfl); omega
  obtain ⟨u5, eu5⟩ : ∃ v : Int, v = M 131 12 := ⟨_, rfl⟩
  have ku5 : 0 ≤ u5 ∧ u5 ≤ 4 := by have := hI.at (show Bd 131 12 = (0, 4) from rfl); omega
  obtain ⟨u6, eu6⟩ : ∃ v : Int, v = M 131 16 := ⟨_, rfl⟩
  have ku6 : (-2147483648) ≤ u6 ∧ u6 ≤ 2147483647 := by have := hI.at (show Bd 131 16 = (-2147483648, 2147483647) from rfl); omega
  refine z_aload_n F dX12_isWord_0 rfl (q := 0) rfl ?_
  refine gf_X12_108 F hI gs_131 rfl bd_131_12 dX12_isWord_1 (fun v7 ev7 av7 bv7 => ?_)
  have zv7 : u5 = v7 := eu5.trans ev7.symm
  subst zv7
  refine z_if_ne (tgt := 35) F dX12_isWord_4 (by decide +kernel) (by omega) (fun c8 => ?_) (fun c8 => ?_)
  · refine z_iconst F dX12_isWord_35 ?_
    refine z_istore_n F dX12_isWord_36 rfl (by decide) (ls' := [(2, ii 0), (0, .ref (ad 131)), (1, .ref (ad 1067))]) rfl ?_
    refine z_iconst F dX12_isWord_37 ?_
    refine z_istore_n F dX12_isWord_38 rfl (by decide) (ls' := [(3, ii 0), (2, ii 0), (0, .ref (ad 131)), (1, .ref (ad 1067))]) rfl ?_
    refine z_loc [2, 3, 1, 0] (ls' := [(0, .ref (ad 131)), (1, .ref (ad 1067)), (2, ii 0), (3, ii 0)]) rfl ?_
    suffices key39 : ∀ (n : Nat) (y10 : Int) (y11 : Int), 0 ≤ y10 → y10 ≤ 0 → 0 ≤ y11 → y11 ≤ 0 → (y10 = 1 → M 131 12 = 0 ∧ M 131 10 = 1 ∧ M 131 8 - M 131 9 = 4) → 0 < (n : Int) → Z D cy ad p l e (RMh 5) s m args below meth c A 4 0 0 Q 39 [(0, .ref (ad 131)), (1, .ref (ad 1067)), (2, ii y10), (3, ii y11)] [] M from key39 1 0 0 (by omega) (by omega) (by omega) (by omega) (by omega) (by omega)
    intro n39
    induction n39 with
    | zero => intro y10 y11 ay10 by10 ay11 by11 i39_0 hn39; exfalso; omega
    | succ n39 ih39 =>
      intro y10 y11 ay10 by10 ay11 by11 i39_0 hn39
      refine z_iload_n F dX12_isWord_39 rfl (q := 2) rfl ?_
      refine z_if_eq (tgt := 82) F dX12_isWord_40 (by decide +kernel) (by omega) (fun c12 => ?_) (fun c12 => by exfalso; omega)
      refine z_iload_n F dX12_isWord_82 rfl (q := 2) rfl ?_
      exact hret _ _ 83 _ ⟨by omega, by omega⟩ ⟨hI, hW⟩ ⟨⟨by omega, by omega⟩, rfl, (by omega)⟩ dX12_isWord_83
  · refine z_aload_n F dX12_isWord_7 rfl (q := 0) rfl ?_
    refine gf_X12_88 F hI gs_131 rfl bd_131_10 dX12_isWord_8 (fun v13 ev13 av13 bv13 => ?_)
    have zv13 : u4 = v13 := eu4.trans ev13.symm
    subst zv13
    refine z_iconst F dX12_isWord_11 ?_
    refine z_icmp_ne (tgt := 35) F dX12_isWord_12 (by decide +kernel) (by omega) (by omega) (fun c14 => ?_) (fun c14 => ?_)
    · refine z_iconst F dX12_isWord_35 ?_
      refine z_istore_n F dX12_isWord_36 rfl (by decide) (ls' := [(2, ii 0), (0, .ref (ad 131)), (1, .ref (ad 1067))]) rfl ?_
      refine z_iconst F dX12_isWord_37 ?_
      refine z_istore_n F dX12_isWord_38 rfl (by decide) (ls' := [(3, ii 0), (2, ii 0), (0, .ref (ad 131)), (1, .ref (ad 1067))]) rfl ?_
      refine z_loc [2, 3, 1, 0] (ls' := [(0, .ref (ad 131)), (1, .ref (ad 1067)), (2, ii 0), (3, ii 0)]) rfl ?_
      suffices key39 : ∀ (n : Nat) (y16 : Int) (y17 : Int), 0 ≤ y16 → y16 ≤ 0 → 0 ≤ y17 → y17 ≤ 0 → (y16 = 1 → M 131 12 = 0 ∧ M 131 10 = 1 ∧ M 131 8 - M 131 9 = 4) → 0 < (n : Int) → Z D cy ad p l e (RMh 5) s m args below meth c A 4 0 0 Q 39 [(0, .ref (ad 131)), (1, .ref (ad 1067)), (2, ii y16), (3, ii y17)] [] M from key39 1 0 0 (by omega) (by omega) (by omega) (by omega) (by omega) (by omega)
      intro n39
      induction n39 with
      | zero => intro y16 y17 ay16 by16 ay17 by17 i39_0 hn39; exfalso; omega
      | succ n39 ih39 =>
        intro y16 y17 ay16 by16 ay17 by17 i39_0 hn39
        refine z_iload_n F dX12_isWord_39 rfl (q := 2) rfl ?_
        refine z_if_eq (tgt := 82) F dX12_isWord_40 (by decide +kernel) (by omega) (fun c18 => ?_) (fun c18 => by exfalso; omega)
        refine z_iload_n F dX12_isWord_82 rfl (q := 2) rfl ?_
        exact hret _ _ 83 _ ⟨by omega, by omega⟩ ⟨hI, hW⟩ ⟨⟨by omega, by omega⟩, rfl, (by omega)⟩ dX12_isWord_83
    · refine z_aload_n F dX12_isWord_15 rfl (q := 0) rfl ?_
      refine gf_X12_82 F hI gs_131 rfl bd_131_8 dX12_isWord_16 (fun v19 ev19 av19 bv19 => ?_)
      have zv19 : u2 = v19 := eu2.trans ev19.symm
      subst zv19
      refine z_aload_n F dX12_isWord_19 rfl (q := 0) rfl ?_
      refine gf_X12_85 F hI gs_131 rfl bd_131_9 dX12_isWord_20 (fun v20 ev20 av20 bv20 => ?_)
      have zv20 : u3 = v20 := eu3.trans ev20.symm
      subst zv20
      refine z_isub F dX12_isWord_23 ?_
      refine z_aload_n F dX12_isWord_24 rfl (q := 1) rfl ?_
      refine zvs_i (i := 67) (rest := [ii (u2 - u3)]) F (kS_len l M ⟨hI, hW⟩ 67 (by decide)) cs_X12_114 (by decide) (by decide) (by decide) rfl rfl rfl (Nat.le_of_ble_eq_true rfl) dX12_isWord_25 (fun v21 M9 rv21 hI9 pv21 => ?_)
      obtain ⟨ev21, rfl⟩ := pv21
      obtain rfl : v21 = 4 := ev21.trans (show ((sbyt.getD 67 []).length : Int) = 4 from by decide)
      clear hI9
      refine z_icmp_ne (tgt := 35) F dX12_isWord_28 (by decide +kernel) (by omega) (by omega) (fun c22 => ?_) (fun c22 => ?_)
      · refine z_iconst F dX12_isWord_35 ?_
        refine z_istore_n F dX12_isWord_36 rfl (by decide) (ls' := [(2, ii 0), (0, .ref (ad 131)), (1, .ref (ad 1067))]) rfl ?_
        refine z_iconst F dX12_isWord_37 ?_
        refine z_istore_n F dX12_isWord_38 rfl (by decide) (ls' := [(3, ii 0), (2, ii 0), (0, .ref (ad 131)), (1, .ref (ad 1067))]) rfl ?_
        refine z_loc [2, 3, 1, 0] (ls' := [(0, .ref (ad 131)), (1, .ref (ad 1067)), (2, ii 0), (3, ii 0)]) rfl ?_
        suffices key39 : ∀ (n : Nat) (y24 : Int) (y25 : Int), 0 ≤ y24 → y24 ≤ 0 → 0 ≤ y25 → y25 ≤ 0 → (y24 = 1 → M 131 12 = 0 ∧ M 131 10 = 1 ∧ M 131 8 - M 131 9 = 4) → 0 < (n : Int) → Z D cy ad p l e (RMh 5) s m args below meth c A 4 0 0 Q 39 [(0, .ref (ad 131)), (1, .ref (ad 1067)), (2, ii y24), (3, ii y25)] [] M from key39 1 0 0 (by omega) (by omega) (by omega) (by omega) (by omega) (by omega)
        intro n39
        induction n39 with
        | zero => intro y24 y25 ay24 by24 ay25 by25 i39_0 hn39; exfalso; omega
        | succ n39 ih39 =>
          intro y24 y25 ay24 by24 ay25 by25 i39_0 hn39
          refine z_iload_n F dX12_isWord_39 rfl (q := 2) rfl ?_
          refine z_if_eq (tgt := 82) F dX12_isWord_40 (by decide +kernel) (by omega) (fun c26 => ?_) (fun c26 => by exfalso; omega)
          refine z_iload_n F dX12_isWord_82 rfl (q := 2) rfl ?_
          exact hret _ _ 83 _ ⟨by omega, by omega⟩ ⟨hI, hW⟩ ⟨⟨by omega, by omega⟩, rfl, (by omega)⟩ dX12_isWord_83
      · refine z_iconst F dX12_isWord_31 ?_
        refine z_goto (tgt := 36) F dX12_isWord_32 (by decide +kernel) ?_
        refine z_istore_n F dX12_isWord_36 rfl (by decide) (ls' := [(2, ii 1), (0, .ref (ad 131)), (1, .ref (ad 1067))]) rfl ?_
        refine z_iconst F dX12_isWord_37 ?_
        refine z_istore_n F dX12_isWord_38 rfl (by decide) (ls' := [(3, ii 0), (2, ii 1), (0, .ref (ad 131)), (1, .ref (ad 1067))]) rfl ?_
        refine z_loc [2, 3, 1, 0] (ls' := [(0, .ref (ad 131)), (1, .ref (ad 1067)), (2, ii 1), (3, ii 0)]) rfl ?_
        suffices key39 : ∀ (n : Nat) (y28 : Int) (y29 : Int), 0 ≤ y28 → y28 ≤ 1 → 0 ≤ y29 → y29 ≤ 4 → (y28 = 1 → M 131 12 = 0 ∧ M 131 10 = 1 ∧ M 131 8 - M 131 9 = 4) → 4 - y29 < (n : Int) → Z D cy ad p l e (RMh 5) s m args below meth c A 4 0 0 Q 39 [(0, .ref (ad 131)), (1, .ref (ad 1067)), (2, ii y28), (3, ii y29)] [] M from key39 5 1 0 (by omega) (by omega) (by omega) (by omega) (by omega) (by omega)
        intro n39
        induction n39 with
        | zero => intro y28 y29 ay28 by28 ay29 by29 i39_0 hn39; exfalso; omega
        | succ n39 ih39 =>
          intro y28 y29 ay28 by28 ay29 by29 i39_0 hn39
          refine z_iload_n F dX12_isWord_39 rfl (q := 2) rfl ?_
          refine z_if_eq (tgt := 82) F dX12_isWord_40 (by decide +kernel) (by omega) (fun c30 => ?_) (fun c30 => ?_)
          · refine z_iload_n F dX12_isWord_82 rfl (q := 2) rfl ?_
            exact hret _ _ 83 _ ⟨by omega, by omega⟩ ⟨hI, hW⟩ ⟨⟨by omega, by omega⟩, rfl, (by omega)⟩ dX12_isWord_83
          · refine z_iload_n F dX12_isWord_43 rfl (q := 3) rfl ?_
            refine z_aload_n F dX12_isWord_44 rfl (q := 1) rfl ?_
            refine zvs_i (i := 67) (rest := [ii y29]) F (kS_len l M ⟨hI, hW⟩ 67 (by decide)) cs_X12_114 (by decide) (by decide) (by decide) rfl rfl rfl (Nat.le_of_ble_eq_true rfl) dX12_isWord_45 (fun v31 M9 rv31 hI9 pv31 => ?_)
            obtain ⟨ev31, rfl⟩ := pv31
            obtain rfl : v31 = 4 := ev31.trans (show ((sbyt.getD 67 []).length : Int) = 4 from by decide)
            clear hI9
            refine z_icmp_ge (tgt := 82) F dX12_isWord_48 (by decide +kernel) (by omega) (by omega) (fun c32 => ?_) (fun c32 => ?_)
            · refine z_iload_n F dX12_isWord_82 rfl (q := 2) rfl ?_
              exact hret _ _ 83 _ ⟨by omega, by omega⟩ ⟨hI, hW⟩ ⟨⟨by omega, by omega⟩, rfl, (by omega)⟩ dX12_isWord_83
            · refine z_aload_n F dX12_isWord_51 rfl (q := 0) rfl ?_
              refine rf_X12_23 F gs_131 rfl dX12_isWord_52 ?_
              refine z_aload_n F dX12_isWord_55 rfl (q := 0) rfl ?_
              refine gf_X12_85 F hI gs_131 rfl bd_131_9 dX12_isWord_56 (fun v33 ev33 av33 bv33 => ?_)
              have zv33 : u3 = v33 := eu3.trans ev33.symm
              subst zv33
              refine z_iload_n F dX12_isWord_59 rfl (q := 3) rfl ?_
              refine z_iadd F dX12_isWord_60 ?_
              have k34 : 0 ≤ (u3 + y29) ∧ (u3 + y29) ≤ 899 := by omega
              refine z_iald F hI gs_136 (by omega) (by omega) (by decide) bd_136 dX12_isWord_61 (fun v35 (ev35 : v35 = M 136 _) av35 bv35 => ?_)
              refine z_aload_n F dX12_isWord_62 rfl (q := 1) rfl ?_
              refine z_iload_n F dX12_isWord_63 rfl (q := 3) rfl ?_
              refine zvs_i (i := 67) (rest := [ii v35]) F (kS_chr l M ⟨hI, hW⟩ 67 (by decide) y29 (by omega) (show y29 < ((sbyt.getD 67 []).length : Int) from by rw [show ((sbyt.getD 67 []).length : Int) = 4 from by decide]; omega)) cs_X12_119 (by decide) (by decide) (by decide) rfl rfl rfl (Nat.le_of_ble_eq_true rfl) dX12_isWord_64 (fun v36 M9 rv36 hI9 pv36 => ?_)
              obtain ⟨⟨av36, bv36⟩, rfl⟩ := pv36
              clear hI9
              refine z_icmp_ne (tgt := 74) F dX12_isWord_67 (by decide +kernel) (by omega) (by omega) (fun c37 => ?_) (fun c37 => ?_)
              · refine z_iconst F dX12_isWord_74 ?_
                refine z_istore_n F dX12_isWord_75 rfl (by decide) (ls' := [(2, ii 0), (0, .ref (ad 131)), (1, .ref (ad 1067)), (3, ii y29)]) rfl ?_
                refine z_iincN F dX12_isWord_76 (q := 3) rfl (by decide) (fun v38 ev38 => ?_)
                refine z_eq (ls' := [(3, ii v38), (2, ii 0), (0, .ref (ad 131)), (1, .ref (ad 1067))]) rfl rfl rfl ?_
                refine z_goto (tgt := 39) F dX12_isWord_79 (by decide +kernel) ?_
                refine z_loc [2, 3, 1, 0] (ls' := [(0, .ref (ad 131)), (1, .ref (ad 1067)), (2, ii 0), (3, ii v38)]) rfl ?_
                exact ih39 0 v38 (by omega) (by omega) (by omega) (by omega) (by omega) (by omega)
              · refine z_iconst F dX12_isWord_70 ?_
                refine z_goto (tgt := 75) F dX12_isWord_71 (by decide +kernel) ?_
                refine z_istore_n F dX12_isWord_75 rfl (by decide) (ls' := [(2, ii 1), (0, .ref (ad 131)), (1, .ref (ad 1067)), (3, ii y29)]) rfl ?_
                refine z_iincN F dX12_isWord_76 (q := 3) rfl (by decide) (fun v39 ev39 => ?_)
                refine z_eq (ls' := [(3, ii v39), (2, ii 1), (0, .ref (ad 131)), (1, .ref (ad 1067))]) rfl rfl rfl ?_
                refine z_goto (tgt := 39) F dX12_isWord_79 (by decide +kernel) ?_
                refine z_loc [2, 3, 1, 0] (ls' := [(0, .ref (ad 131)), (1, .ref (ad 1067)), (2, ii 1), (3, ii v39)]) rfl ?_
                exact ih39 1 v39 (by omega) (by omega) (by omega) (by omega) (by omega) (by omega)
set_option maxRecDepth 4000 in
theorem kp_X12_readEvent (l : Launch) (M : Mem) (hJ : Iw M) (hp0 : M 131 9 ≤ M 131 8 ∧ M 131 8 ≤ M 131 7 ∧ (M 131 10 = 0 ∨ M 131 9 < M 131 8)) (hp1 : M 133 6 ≤ M 131 9) (hp2 : Wl M) (hp3 : M 131 16 = 0) : CV l yX12_readEvent cX12_readEvent 6 none 8 (fun ad => [.ref (ad 131)]) M (fun M' => Fr [131, 133] M M' ∧ (Wl M' ∧ M' 131 7 = M 131 7 ∧ M' 131 16 = M 131 16 ∧ M 131 9 ≤ M' 131 9 ∧ M' 131 9 ≤ M' 131 8 ∧ M' 131 8 ≤ M' 131 7 ∧ (M' 131 10 = 0 ∨ M' 131 9 < M' 131 8) ∧ M' 133 6 = M 133 6 ∧ M' 133 1 = M 133 1 ∧ (M' 131 12 = 0 → M 131 12 = 0))) := by
  obtain ⟨hI, hW⟩ := hJ
  have hF : Fr [131, 133] M M := Fr.rf
  refine en_v (by decide +kernel) (fun ad => by exact Nat.le_of_ble_eq_true rfl) (fun D cy ad A p e s m args below meth c Q F hret => ?_)
  refine z_eq (ls' := [(0, .ref (ad 131))]) rfl rfl rfl ?_
  have hL := hp2
  refine z_aload_n F dX12_readEvent_0 rfl (q := 0) rfl ?_
  refine z_iconst F dX12_readEvent_1 ?_
  refine z_bipush F dX12_readEvent_2 (by decide +kernel) ?_
  refine zv_i (rest := []) F (kp_X12_begins l M ⟨hI, hW⟩ 4 (by omega) (by omega) 6 (by omega) (by omega) (by omega)) cs_X12_203 (T := TX12) (N := 44) (ci := 12) rfl gs_131 (by decide) (by decide) rfl rfl rfl (Nat.le_of_ble_eq_true rfl) dX12_readEvent_4 (fun v1 M2 rv1 hI p3 => ?_)
  obtain ⟨hI, hW⟩ := hI
  obtain ⟨⟨av1, bv1⟩, fp3, xp3⟩ := p3
  have hF := hF.call fp3 (by decide)
  have tM2_133_6 : M2 133 6 = M 133 6 := fp3.at (by decide)
  have tM2_133_1 : M2 133 1 = M 133 1 := fp3.at (by decide)
  have tM2_133_2 : M2 133 2 = M 133 2 := fp3.at (by decide)
  have tM2_133_4 : M2 133 4 = M 133 4 := fp3.at (by decide)
  have hq9 := wl_fr fp3 (by decide)
  have hL := hq9.2 hL
  have cM2 := hq9.1
  clear hq9
  have hbv1 : M 133 (4 : Int).toNat = M 133 4 := rfl
  refine z_if_ne (tgt := 11) F dX12_readEvent_7 (by decide +kernel) (by omega) (fun c4 => ?_) (fun c4 => ?_)
  · refine z_aload_n F dX12_readEvent_11 rfl (q := 0) rfl ?_
    refine z_iconst F dX12_readEvent_12 ?_
    refine z_sipush F dX12_readEvent_13 (by decide +kernel) ?_
    refine zv_i (rest := []) F (kp_X12_number l M2 ⟨hI, hW⟩ 0 (by omega) (by omega) 999 (by omega) (by omega) (by omega)) cs_X12_199 (T := TX12) (N := 44) (ci := 12) rfl gs_131 (by decide) (by decide) rfl rfl rfl (Nat.le_of_ble_eq_true rfl) dX12_readEvent_16 (fun v5 M6 rv5 hI p7 => ?_)
    obtain ⟨hI, hW⟩ := hI
    obtain ⟨⟨av5, bv5⟩, fp7, xp7⟩ := p7
    have hF := hF.call fp7 (by decide)
    have tM6_133_6 : M6 133 6 = M2 133 6 := fp7.at (by decide)
    have tM6_133_1 : M6 133 1 = M2 133 1 := fp7.at (by decide)
    have tM6_133_2 : M6 133 2 = M2 133 2 := fp7.at (by decide)
    have tM6_133_4 : M6 133 4 = M2 133 4 := fp7.at (by decide)
    have hq9 := wl_fr fp7 (by decide)
    have hL := hq9.2 hL
    have cM6 := hq9.1
    clear hq9
    have hkv5 : 0 ≤ v5 ∧ v5 ≤ 999 := by omega
    refine z_istore_n F dX12_readEvent_19 rfl (by decide) (ls' := [(1, ii v5), (0, .ref (ad 131))]) rfl ?_
    refine z_aload_n F dX12_readEvent_20 rfl (q := 1) rfl ?_
    refine z_ldcS (j := 60) F dX12_readEvent_21 rfl rfl rfl ?_
    refine z_eq (st' := [.ref (ad 1060), .ref (ad 131)]) rfl rfl rfl ?_
    refine zv_v (rest := []) F (kp_X12_mustWord_131_1060 l M6 ⟨hI, hW⟩ (by omega)) cs_X12_215 (T := TX12) (N := 44) (ci := 12) rfl gs_131 (by decide) (by decide) rfl rfl rfl (Nat.le_of_ble_eq_true rfl) dX12_readEvent_23 (fun M8 hI p9 => ?_)
    obtain ⟨hI, hW⟩ := hI
    obtain ⟨fp9, xp9⟩ := p9
    have hF := hF.call fp9 (by decide)
    have tM8_133_6 : M8 133 6 = M6 133 6 := fp9.at (by decide)
    have tM8_133_1 : M8 133 1 = M6 133 1 := fp9.at (by decide)
    have tM8_133_2 : M8 133 2 = M6 133 2 := fp9.at (by decide)
    have tM8_133_4 : M8 133 4 = M6 133 4 := fp9.at (by decide)
    have hq9 := wl_fr fp9 (by decide)
    have hL := hq9.2 hL
    have cM8 := hq9.1
    clear hq9
    refine z_aload_n F dX12_readEvent_26 rfl (q := 1) rfl ?_
    refine z_iconst F dX12_readEvent_27 ?_
    refine z_aload_n F dX12_readEvent_28 rfl (q := 1) rfl ?_
    refine rf_X12_13 F gs_131 rfl dX12_readEvent_29 ?_
    refine z_iconst F dX12_readEvent_32 ?_
    refine z_iald F hI gs_133 (by omega) (by omega) (by decide) (show Bd 133 2 = (0, 8) from rfl) dX12_readEvent_33 (fun v10 (ev10 : v10 = M8 133 2) av10 bv10 => ?_)
    refine z_iconst F dX12_readEvent_34 ?_
    refine z_isub F dX12_readEvent_35 ?_
    refine zv_i (rest := []) F (kp_X12_number l M8 ⟨hI, hW⟩ 0 (by omega) (by omega) (v10 - 1) (by omega) (by omega) (by omega)) cs_X12_199 (T := TX12) (N := 44) (ci := 12) rfl gs_131 (by decide) (by decide) rfl rfl rfl (Nat.le_of_ble_eq_true rfl) dX12_readEvent_36 (fun v11 M12 rv11 hI p13 => ?_)
    obtain ⟨hI, hW⟩ := hI
    obtain ⟨⟨av11, bv11⟩, fp13, xp13⟩ := p13
    have hF := hF.call fp13 (by decide)
    have tM12_133_6 : M12 133 6 = M8 133 6 := fp13.at (by decide)
    have tM12_133_1 : M12 133 1 = M8 133 1 := fp13.at (by decide)
    have tM12_133_2 : M12 133 2 = M8 133 2 := fp13.at (by decide)
    have tM12_133_4 : M12 133 4 = M8 133 4 := fp13.at (by decide)
    have hq9 := wl_fr fp13 (by decide)
    have hL := hq9.2 hL
    have cM12 := hq9.1
    clear hq9
    have hkv11 : 0 ≤ v11 ∧ v11 ≤ 7 := by omega
    refine z_istore_n F dX12_readEvent_39 rfl (by decide) (ls' := [(2, ii v11), (1, ii v5), (0, .ref (ad 131))]) rfl ?_
    refine z_aload_n F dX12_readEvent_40 rfl (q := 2) rfl ?_
    refine z_ldcS (j := 66) F dX12_readEvent_41 rfl rfl rfl ?_
    refine z_eq (st' := [.ref (ad 1066), .ref (ad 131)]) rfl rfl rfl ?_
    refine zv_i (rest := []) F (kp_X12_isWord_131_1066 l M12 ⟨hI, hW⟩ (by omega)) cs_X12_123 (T := TX12) (N := 44) (ci := 12) rfl gs_131 (by decide) (by decide) rfl rfl rfl (Nat.le_of_ble_eq_true rfl) dX12_readEvent_43 (fun v14 M15 rv14 hI p16 => ?_)
    obtain ⟨hI, hW⟩ := hI
    obtain ⟨⟨av14, bv14⟩, rfl, xp16⟩ := p16
    refine z_istore_n F dX12_readEvent_46 rfl (by decide) (ls' := [(3, ii v14), (2, ii v11), (1, ii v5), (0, .ref (ad 131))]) rfl ?_
    refine z_iload_n F dX12_readEvent_47 rfl (q := 0) rfl ?_
    refine z_if_ne (tgt := 65) F dX12_readEvent_48 (by decide +kernel) (by omega) (fun c17 => ?_) (fun c17 => ?_)
    · refine z_aload_n F dX12_readEvent_65 rfl (q := 3) rfl ?_
      refine gf_X12_108 F hI gs_131 rfl bd_131_12 dX12_readEvent_66 (fun v18 ev18 av18 bv18 => ?_)
      refine z_if_ne (tgt := 76) F dX12_readEvent_69 (by decide +kernel) (by omega) (fun c19 => ?_) (fun c19 => ?_)
      · refine z_aload_n F dX12_readEvent_76 rfl (q := 3) rfl ?_
        refine z_iconst F dX12_readEvent_77 ?_
        refine z_bipush F dX12_readEvent_78 (by decide +kernel) ?_
        refine zv_i (rest := []) F (kp_X12_number l M12 ⟨hI, hW⟩ 1 (by omega) (by omega) 9 (by omega) (by omega) (by omega)) cs_X12_199 (T := TX12) (N := 44) (ci := 12) rfl gs_131 (by decide) (by decide) rfl rfl rfl (Nat.le_of_ble_eq_true rfl) dX12_readEvent_80 (fun v20 M21 rv20 hI p22 => ?_)
        obtain ⟨hI, hW⟩ := hI
        obtain ⟨⟨av20, bv20⟩, fp22, xp22⟩ := p22
        have hF := hF.call fp22 (by decide)
        have tM21_133_6 : M21 133 6 = M12 133 6 := fp22.at (by decide)
        have tM21_133_1 : M21 133 1 = M12 133 1 := fp22.at (by decide)
        have tM21_133_2 : M21 133 2 = M12 133 2 := fp22.at (by decide)
        have tM21_133_4 : M21 133 4 = M12 133 4 := fp22.at (by decide)
        have hq9 := wl_fr fp22 (by decide)
        have hL := hq9.2 hL
        have cM21 := hq9.1
        clear hq9
        have hkv20 : 1 ≤ v20 ∧ v20 ≤ 9 := by omega
        refine z_istore F dX12_readEvent_83 (by decide) (ls' := [(4, ii v20), (3, ii v14), (2, ii v11), (1, ii v5), (0, .ref (ad 131))]) rfl ?_
        refine z_aload_n F dX12_readEvent_85 rfl (q := 4) rfl ?_
        refine gf_X12_108 F hI gs_131 rfl bd_131_12 dX12_readEvent_86 (fun v23 ev23 av23 bv23 => ?_)
        refine z_if_eq (tgt := 93) F dX12_readEvent_89 (by decide +kernel) (by omega) (fun c24 => ?_) (fun c24 => ?_)
        · refine z_sipush F dX12_readEvent_93 (by decide +kernel) ?_
          refine z_iconst F dX12_readEvent_96 ?_
          refine z_aload_n F dX12_readEvent_97 rfl (q := 4) rfl ?_
          refine rf_X12_13 F gs_131 rfl dX12_readEvent_98 ?_
          refine z_iconst F dX12_readEvent_101 ?_
          refine z_iald F hI gs_133 (by omega) (by omega) (by decide) (show Bd 133 4 = (0, 6) from rfl) dX12_readEvent_102 (fun v25 (ev25 : v25 = M21 133 4) av25 bv25 => ?_)
          have k26 : 0 ≤ v25 ∧ v25 ≤ 5 := by omega
          refine z_imul F dX12_readEvent_103 ?_
          refine z_iadd F dX12_readEvent_104 ?_
          refine z_nm (fun v27 ev27 => ?_)
          refine z_istore F dX12_readEvent_105 (by decide) (ls' := [(5, ii v27), (4, ii v20), (3, ii v14), (2, ii v11), (1, ii v5), (0, .ref (ad 131))]) rfl ?_
          refine z_aload_n F dX12_readEvent_107 rfl (q := 5) rfl ?_
          refine rf_X12_13 F gs_131 rfl dX12_readEvent_108 ?_
          refine z_iload F dX12_readEvent_111 (q := 0) rfl ?_
          refine z_iload_n F dX12_readEvent_113 rfl (q := 4) rfl ?_
          refine z_iast F hI gs_133 (by omega) (by omega) (by decide) (bd_133.trans (kn_ev0 (by omega) (by omega) (by omega))) dX12_readEvent_114 (by omega) (by omega) (fun M29 hI sf28 f28 => ?_)
          have tM29_131_7 : M29 131 7 = M21 131 7 := f28 131 7 (fun q => absurd q.1 (by decide))
          have tM29_131_8 : M29 131 8 = M21 131 8 := f28 131 8 (fun q => absurd q.1 (by decide))
          have tM29_131_9 : M29 131 9 = M21 131 9 := f28 131 9 (fun q => absurd q.1 (by decide))
          have tM29_131_10 : M29 131 10 = M21 131 10 := f28 131 10 (fun q => absurd q.1 (by decide))
          have tM29_131_12 : M29 131 12 = M21 131 12 := f28 131 12 (fun q => absurd q.1 (by decide))
          have tM29_131_16 : M29 131 16 = M21 131 16 := f28 131 16 (fun q => absurd q.1 (by decide))
          have tM29_133_6 : M29 133 6 = M21 133 6 := f28 133 6 (fun q => by have := q.2; omega)
          have tM29_133_1 : M29 133 1 = M21 133 1 := f28 133 1 (fun q => by have := q.2; omega)
          have tM29_133_2 : M29 133 2 = M21 133 2 := f28 133 2 (fun q => by have := q.2; omega)
          have tM29_133_4 : M29 133 4 = M21 133 4 := f28 133 4 (fun q => by have := q.2; omega)
          have hq9 := wl_wr f28 (by omega)
          have hL := hq9.2 hL
          have cM29 := hq9.1
          clear hq9
          have hF := hF.wr f28 (by decide) (by decide)
          have hW : WFk M29 := hW.site f28 (by decide)
          refine z_aload_n F dX12_readEvent_115 rfl (q := 5) rfl ?_
          refine rf_X12_13 F gs_131 rfl dX12_readEvent_116 ?_
          refine z_iload F dX12_readEvent_119 (q := 0) rfl ?_
          refine z_iconst F dX12_readEvent_121 ?_
          refine z_iadd F dX12_readEvent_122 ?_
          refine z_iload_n F dX12_readEvent_123 rfl (q := 3) rfl ?_
          refine z_iast F hI gs_133 (by omega) (by omega) (by decide) (bd_133.trans (kn_ev1 (by omega) (by omega) (by omega))) dX12_readEvent_124 (by omega) (by omega) (fun M31 hI sf30 f30 => ?_)
          have tM31_131_7 : M31 131 7 = M29 131 7 := f30 131 7 (fun q => absurd q.1 (by decide))
          have tM31_131_8 : M31 131 8 = M29 131 8 := f30 131 8 (fun q => absurd q.1 (by decide))
          have tM31_131_9 : M31 131 9 = M29 131 9 := f30 131 9 (fun q => absurd q.1 (by decide))
          have tM31_131_10 : M31 131 10 = M29 131 10 := f30 131 10 (fun q => absurd q.1 (by decide))
          have tM31_131_12 : M31 131 12 = M29 131 12 := f30 131 12 (fun q => absurd q.1 (by decide))
          have tM31_131_16 : M31 131 16 = M29 131 16 := f30 131 16 (fun q => absurd q.1 (by decide))
          have tM31_133_6 : M31 133 6 = M29 133 6 := f30 133 6 (fun q => by have := q.2; omega)
          have tM31_133_1 : M31 133 1 = M29 133 1 := f30 133 1 (fun q => by have := q.2; omega)
          have tM31_133_2 : M31 133 2 = M29 133 2 := f30 133 2 (fun q => by have := q.2; omega)
          have tM31_133_4 : M31 133 4 = M29 133 4 := f30 133 4 (fun q => by have := q.2; omega)
          have hq9 := wl_wr f30 (by omega)
          have hL := hq9.2 hL
          have cM31 := hq9.1
          clear hq9
          have hF := hF.wr f30 (by decide) (by decide)
          have hW : WFk M31 := hW.site f30 (by decide)
          refine z_aload_n F dX12_readEvent_125 rfl (q := 5) rfl ?_
          refine rf_X12_13 F gs_131 rfl dX12_readEvent_126 ?_
          refine z_iload F dX12_readEvent_129 (q := 0) rfl ?_
          refine z_iconst F dX12_readEvent_131 ?_
          refine z_iadd F dX12_readEvent_132 ?_
          refine z_iload_n F dX12_readEvent_133 rfl (q := 2) rfl ?_
          refine z_if_eq (tgt := 143) F dX12_readEvent_134 (by decide +kernel) (by omega) (fun c32 => by exfalso; omega) (fun c32 => ?_)
          refine z_iload F dX12_readEvent_137 (q := 1) rfl ?_
          refine z_ineg F dX12_readEvent_139 ?_
          refine z_goto (tgt := 145) F dX12_readEvent_140 (by decide +kernel) ?_
          refine z_nm (fun v34 ev34 => ?_)
          refine z_iast F hI gs_133 (by omega) (by omega) (by decide) (bd_133.trans (kn_ev2 (by omega) (by omega) (by omega))) dX12_readEvent_145 (by omega) (by omega) (fun M35 hI sf33 f33 => ?_)
          have tM35_131_7 : M35 131 7 = M31 131 7 := f33 131 7 (fun q => absurd q.1 (by decide))
          have tM35_131_8 : M35 131 8 = M31 131 8 := f33 131 8 (fun q => absurd q.1 (by decide))
          have tM35_131_9 : M35 131 9 = M31 131 9 := f33 131 9 (fun q => absurd q.1 (by decide))
          have tM35_131_10 : M35 131 10 = M31 131 10 := f33 131 10 (fun q => absurd q.1 (by decide))
          have tM35_131_12 : M35 131 12 = M31 131 12 := f33 131 12 (fun q => absurd q.1 (by decide))
          have tM35_131_16 : M35 131 16 = M31 131 16 := f33 131 16 (fun q => absurd q.1 (by decide))
          have tM35_133_6 : M35 133 6 = M31 133 6 := f33 133 6 (fun q => by have := q.2; omega)
          have tM35_133_1 : M35 133 1 = M31 133 1 := f33 133 1 (fun q => by have := q.2; omega)
          have tM35_133_2 : M35 133 2 = M31 133 2 := f33 133 2 (fun q => by have := q.2; omega)
          have tM35_133_4 : M35 133 4 = M31 133 4 := f33 133 4 (fun q => by have := q.2; omega)
          have hq9 := wl_wr f33 (by omega)
          have hL := hq9.2 hL
          have cM35 := hq9.1
          clear hq9
          have hF := hF.wr f33 (by decide) (by decide)
          have hW : WFk M35 := hW.site f33 (by decide)
          refine z_aload_n F dX12_readEvent_146 rfl (q := 5) rfl ?_
          refine rf_X12_13 F gs_131 rfl dX12_readEvent_147 ?_
          refine z_iconst F dX12_readEvent_150 ?_
          refine z_dup2 F dX12_readEvent_151 rfl rfl ?_
          refine z_iald F hI gs_133 (by omega) (by omega) (by decide) (show Bd 133 4 = (0, 6) from rfl) dX12_readEvent_152 (fun v36 (ev36 : v36 = M35 133 4) av36 bv36 => ?_)
          have q37 : v25 = M29 133 4 := ev25.trans (f28 133 4 (fun q => by omega)).symm
          have q38 : v25 = M31 133 4 := q37.trans (f30 133 4 (fun q => by omega)).symm
          have q39 : v25 = M35 133 4 := q38.trans (f33 133 4 (fun q => by omega)).symm
          have zv36 : v25 = v36 := q39.trans ev36.symm
          subst zv36
          refine z_iconst F dX12_readEvent_153 ?_
          refine z_iadd F dX12_readEvent_154 ?_
          refine z_nm (fun v41 ev41 => ?_)
          refine z_iast F hI gs_133 (by omega) (by omega) (by decide) (show Bd 133 4 = (0, 6) from rfl) dX12_readEvent_155 (by omega) (by omega) (fun M42 hI sf40 f40 => ?_)
          have tM42_131_7 : M42 131 7 = M35 131 7 := f40 131 7 (fun q => absurd q.1 (by decide))
          have tM42_131_8 : M42 131 8 = M35 131 8 := f40 131 8 (fun q => absurd q.1 (by decide))
          have tM42_131_9 : M42 131 9 = M35 131 9 := f40 131 9 (fun q => absurd q.1 (by decide))
          have tM42_131_10 : M42 131 10 = M35 131 10 := f40 131 10 (fun q => absurd q.1 (by decide))
          have tM42_131_12 : M42 131 12 = M35 131 12 := f40 131 12 (fun q => absurd q.1 (by decide))
          have tM42_131_16 : M42 131 16 = M35 131 16 := f40 131 16 (fun q => absurd q.1 (by decide))
          have tM42_133_6 : M42 133 6 = M35 133 6 := f40 133 6 (fun q => absurd q.2 (by decide))
          have tM42_133_1 : M42 133 1 = M35 133 1 := f40 133 1 (fun q => absurd q.2 (by decide))
          have tM42_133_2 : M42 133 2 = M35 133 2 := f40 133 2 (fun q => absurd q.2 (by decide))
          have hq9 := wl_wr f40 (by omega)
          have hL := hq9.2 hL
          have cM42 := hq9.1
          clear hq9
          have hF := hF.wr f40 (by decide) (by decide)
          have hW : WFk M42 := hW.site f40 (by decide)
          have sf40 : M42 133 4 = v41 := sf40
          exact hret _ 156 _ ⟨hI, hW⟩ ⟨hF, ⟨hL, by omega⟩⟩ dX12_readEvent_156
        · exact hret _ 92 _ ⟨hI, hW⟩ ⟨hF, ⟨hL, by omega⟩⟩ dX12_readEvent_92
      · refine z_aload_n F dX12_readEvent_72 rfl (q := 3) rfl ?_
        refine zv_v (rest := []) F (kp_X12_readsOn l M12 ⟨hI, hW⟩ (by omega)) cs_X12_127 (T := TX12) (N := 44) (ci := 12) rfl gs_131 (by decide) (by decide) rfl rfl rfl (Nat.le_of_ble_eq_true rfl) dX12_readEvent_73 (fun M43 hI p44 => ?_)
        obtain ⟨hI, hW⟩ := hI
        obtain ⟨fp44, xp44⟩ := p44
        have hF := hF.call fp44 (by decide)
        have tM43_133_6 : M43 133 6 = M12 133 6 := fp44.at (by decide)
        have tM43_133_1 : M43 133 1 = M12 133 1 := fp44.at (by decide)
        have tM43_133_2 : M43 133 2 = M12 133 2 := fp44.at (by decide)
        have tM43_133_4 : M43 133 4 = M12 133 4 := fp44.at (by decide)
        have hq9 := wl_fr fp44 (by decide)
        have hL := hq9.2 hL
        have cM43 := hq9.1
        clear hq9
        refine z_aload_n F dX12_readEvent_76 rfl (q := 3) rfl ?_
        refine z_iconst F dX12_readEvent_77 ?_
        refine z_bipush F dX12_readEvent_78 (by decide +kernel) ?_
        refine zv_i (rest := []) F (kp_X12_number l M43 ⟨hI, hW⟩ 1 (by omega) (by omega) 9 (by omega) (by omega) (by omega)) cs_X12_199 (T := TX12) (N := 44) (ci := 12) rfl gs_131 (by decide) (by decide) rfl rfl rfl (Nat.le_of_ble_eq_true rfl) dX12_readEvent_80 (fun v45 M46 rv45 hI p47 => ?_)
        obtain ⟨hI, hW⟩ := hI
        obtain ⟨⟨av45, bv45⟩, fp47, xp47⟩ := p47
        have hF := hF.call fp47 (by decide)
        have tM46_133_6 : M46 133 6 = M43 133 6 := fp47.at (by decide)
        have tM46_133_1 : M46 133 1 = M43 133 1 := fp47.at (by decide)
        have tM46_133_2 : M46 133 2 = M43 133 2 := fp47.at (by decide)
        have tM46_133_4 : M46 133 4 = M43 133 4 := fp47.at (by decide)
        have hq9 := wl_fr fp47 (by decide)
        have hL := hq9.2 hL
        have cM46 := hq9.1
        clear hq9
        have hkv45 : 1 ≤ v45 ∧ v45 ≤ 9 := by omega
        refine z_istore F dX12_readEvent_83 (by decide) (ls' := [(4, ii v45), (3, ii v14), (2, ii v11), (1, ii v5), (0, .ref (ad 131))]) rfl ?_
        refine z_aload_n F dX12_readEvent_85 rfl (q := 4) rfl ?_
        refine gf_X12_108 F hI gs_131 rfl bd_131_12 dX12_readEvent_86 (fun v48 ev48 av48 bv48 => ?_)
        refine z_if_eq (tgt := 93) F dX12_readEvent_89 (by decide +kernel) (by omega) (fun c49 => ?_) (fun c49 => ?_)
        · refine z_sipush F dX12_readEvent_93 (by decide +kernel) ?_
          refine z_iconst F dX12_readEvent_96 ?_
          refine z_aload_n F dX12_readEvent_97 rfl (q := 4) rfl ?_
          refine rf_X12_13 F gs_131 rfl dX12_readEvent_98 ?_
          refine z_iconst F dX12_readEvent_101 ?_
          refine z_iald F hI gs_133 (by omega) (by omega) (by decide) (show Bd 133 4 = (0, 6) from rfl) dX12_readEvent_102 (fun v50 (ev50 : v50 = M46 133 4) av50 bv50 => ?_)
          have k51 : 0 ≤ v50 ∧ v50 ≤ 5 := by omega
          refine z_imul F dX12_readEvent_103 ?_
          refine z_iadd F dX12_readEvent_104 ?_
          refine z_nm (fun v52 ev52 => ?_)
          refine z_istore F dX12_readEvent_105 (by decide) (ls' := [(5, ii v52), (4, ii v45), (3, ii v14), (2, ii v11), (1, ii v5), (0, .ref (ad 131))]) rfl ?_
          refine z_aload_n F dX12_readEvent_107 rfl (q := 5) rfl ?_
          refine rf_X12_13 F gs_131 rfl dX12_readEvent_108 ?_
          refine z_iload F dX12_readEvent_111 (q := 0) rfl ?_
          refine z_iload_n F dX12_readEvent_113 rfl (q := 4) rfl ?_
          refine z_iast F hI gs_133 (by omega) (by omega) (by decide) (bd_133.trans (kn_ev0 (by omega) (by omega) (by omega))) dX12_readEvent_114 (by omega) (by omega) (fun M54 hI sf53 f53 => ?_)
          have tM54_131_7 : M54 131 7 = M46 131 7 := f53 131 7 (fun q => absurd q.1 (by decide))
          have tM54_131_8 : M54 131 8 = M46 131 8 := f53 131 8 (fun q => absurd q.1 (by decide))
          have tM54_131_9 : M54 131 9 = M46 131 9 := f53 131 9 (fun q => absurd q.1 (by decide))
          have tM54_131_10 : M54 131 10 = M46 131 10 := f53 131 10 (fun q => absurd q.1 (by decide))
          have tM54_131_12 : M54 131 12 = M46 131 12 := f53 131 12 (fun q => absurd q.1 (by decide))
          have tM54_131_16 : M54 131 16 = M46 131 16 := f53 131 16 (fun q => absurd q.1 (by decide))
          have tM54_133_6 : M54 133 6 = M46 133 6 := f53 133 6 (fun q => by have := q.2; omega)
          have tM54_133_1 : M54 133 1 = M46 133 1 := f53 133 1 (fun q => by have := q.2; omega)
          have tM54_133_2 : M54 133 2 = M46 133 2 := f53 133 2 (fun q => by have := q.2; omega)
          have tM54_133_4 : M54 133 4 = M46 133 4 := f53 133 4 (fun q => by have := q.2; omega)
          have hq9 := wl_wr f53 (by omega)
          have hL := hq9.2 hL
          have cM54 := hq9.1
          clear hq9
          have hF := hF.wr f53 (by decide) (by decide)
          have hW : WFk M54 := hW.site f53 (by decide)
          refine z_aload_n F dX12_readEvent_115 rfl (q := 5) rfl ?_
          refine rf_X12_13 F gs_131 rfl dX12_readEvent_116 ?_
          refine z_iload F dX12_readEvent_119 (q := 0) rfl ?_
          refine z_iconst F dX12_readEvent_121 ?_
          refine z_iadd F dX12_readEvent_122 ?_
          refine z_iload_n F dX12_readEvent_123 rfl (q := 3) rfl ?_
          refine z_iast F hI gs_133 (by omega) (by omega) (by decide) (bd_133.trans (kn_ev1 (by omega) (by omega) (by omega))) dX12_readEvent_124 (by omega) (by omega) (fun M56 hI sf55 f55 => ?_)
          have tM56_131_7 : M56 131 7 = M54 131 7 := f55 131 7 (fun q => absurd q.1 (by decide))
          have tM56_131_8 : M56 131 8 = M54 131 8 := f55 131 8 (fun q => absurd q.1 (by decide))
          have tM56_131_9 : M56 131 9 = M54 131 9 := f55 131 9 (fun q => absurd q.1 (by decide))
          have tM56_131_10 : M56 131 10 = M54 131 10 := f55 131 10 (fun q => absurd q.1 (by decide))
          have tM56_131_12 : M56 131 12 = M54 131 12 := f55 131 12 (fun q => absurd q.1 (by decide))
          have tM56_131_16 : M56 131 16 = M54 131 16 := f55 131 16 (fun q => absurd q.1 (by decide))
          have tM56_133_6 : M56 133 6 = M54 133 6 := f55 133 6 (fun q => by have := q.2; omega)
          have tM56_133_1 : M56 133 1 = M54 133 1 := f55 133 1 (fun q => by have := q.2; omega)
          have tM56_133_2 : M56 133 2 = M54 133 2 := f55 133 2 (fun q => by have := q.2; omega)
          have tM56_133_4 : M56 133 4 = M54 133 4 := f55 133 4 (fun q => by have := q.2; omega)
          have hq9 := wl_wr f55 (by omega)
          have hL := hq9.2 hL
          have cM56 := hq9.1
          clear hq9
          have hF := hF.wr f55 (by decide) (by decide)
          have hW : WFk M56 := hW.site f55 (by decide)
          refine z_aload_n F dX12_readEvent_125 rfl (q := 5) rfl ?_
          refine rf_X12_13 F gs_131 rfl dX12_readEvent_126 ?_
          refine z_iload F dX12_readEvent_129 (q := 0) rfl ?_
          refine z_iconst F dX12_readEvent_131 ?_
          refine z_iadd F dX12_readEvent_132 ?_
          refine z_iload_n F dX12_readEvent_133 rfl (q := 2) rfl ?_
          refine z_if_eq (tgt := 143) F dX12_readEvent_134 (by decide +kernel) (by omega) (fun c57 => by exfalso; omega) (fun c57 => ?_)
          refine z_iload F dX12_readEvent_137 (q := 1) rfl ?_
          refine z_ineg F dX12_readEvent_139 ?_
          refine z_goto (tgt := 145) F dX12_readEvent_140 (by decide +kernel) ?_
          refine z_nm (fun v59 ev59 => ?_)
          refine z_iast F hI gs_133 (by omega) (by omega) (by decide) (bd_133.trans (kn_ev2 (by omega) (by omega) (by omega))) dX12_readEvent_145 (by omega) (by omega) (fun M60 hI sf58 f58 => ?_)
          have tM60_131_7 : M60 131 7 = M56 131 7 := f58 131 7 (fun q => absurd q.1 (by decide))
          have tM60_131_8 : M60 131 8 = M56 131 8 := f58 131 8 (fun q => absurd q.1 (by decide))
          have tM60_131_9 : M60 131 9 = M56 131 9 := f58 131 9 (fun q => absurd q.1 (by decide))
          have tM60_131_10 : M60 131 10 = M56 131 10 := f58 131 10 (fun q => absurd q.1 (by decide))
          have tM60_131_12 : M60 131 12 = M56 131 12 := f58 131 12 (fun q => absurd q.1 (by decide))
          have tM60_131_16 : M60 131 16 = M56 131 16 := f58 131 16 (fun q => absurd q.1 (by decide))
          have tM60_133_6 : M60 133 6 = M56 133 6 := f58 133 6 (fun q => by have := q.2; omega)
          have tM60_133_1 : M60 133 1 = M56 133 1 := f58 133 1 (fun q => by have := q.2; omega)
          have tM60_133_2 : M60 133 2 = M56 133 2 := f58 133 2 (fun q => by have := q.2; omega)
          have tM60_133_4 : M60 133 4 = M56 133 4 := f58 133 4 (fun q => by have := q.2; omega)
          have hq9 := wl_wr f58 (by omega)
          have hL := hq9.2 hL
          have cM60 := hq9.1
          clear hq9
          have hF := hF.wr f58 (by decide) (by decide)
          have hW : WFk M60 := hW.site f58 (by decide)
          refine z_aload_n F dX12_readEvent_146 rfl (q := 5) rfl ?_
          refine rf_X12_13 F gs_131 rfl dX12_readEvent_147 ?_
          refine z_iconst F dX12_readEvent_150 ?_
          refine z_dup2 F dX12_readEvent_151 rfl rfl ?_
          refine z_iald F hI gs_133 (by omega) (by omega) (by decide) (show Bd 133 4 = (0, 6) from rfl) dX12_readEvent_152 (fun v61 (ev61 : v61 = M60 133 4) av61 bv61 => ?_)
          have q62 : v50 = M54 133 4 := ev50.trans (f53 133 4 (fun q => by omega)).symm
          have q63 : v50 = M56 133 4 := q62.trans (f55 133 4 (fun q => by omega)).symm
          have q64 : v50 = M60 133 4 := q63.trans (f58 133 4 (fun q => by omega)).symm
          have zv61 : v50 = v61 := q64.trans ev61.symm
          subst zv61
          refine z_iconst F dX12_readEvent_153 ?_
          refine z_iadd F dX12_readEvent_154 ?_
          refine z_nm (fun v66 ev66 => ?_)
          refine z_iast F hI gs_133 (by omega) (by omega) (by decide) (show Bd 133 4 = (0, 6) from rfl) dX12_readEvent_155 (by omega) (by omega) (fun M67 hI sf65 f65 => ?_)
          have tM67_131_7 : M67 131 7 = M60 131 7 := f65 131 7 (fun q => absurd q.1 (by decide))
          have tM67_131_8 : M67 131 8 = M60 131 8 := f65 131 8 (fun q => absurd q.1 (by decide))
          have tM67_131_9 : M67 131 9 = M60 131 9 := f65 131 9 (fun q => absurd q.1 (by decide))
          have tM67_131_10 : M67 131 10 = M60 131 10 := f65 131 10 (fun q => absurd q.1 (by decide))
          have tM67_131_12 : M67 131 12 = M60 131 12 := f65 131 12 (fun q => absurd q.1 (by decide))
          have tM67_131_16 : M67 131 16 = M60 131 16 := f65 131 16 (fun q => absurd q.1 (by decide))
          have tM67_133_6 : M67 133 6 = M60 133 6 := f65 133 6 (fun q => absurd q.2 (by decide))
          have tM67_133_1 : M67 133 1 = M60 133 1 := f65 133 1 (fun q => absurd q.2 (by decide))
          have tM67_133_2 : M67 133 2 = M60 133 2 := f65 133 2 (fun q => absurd q.2 (by decide))
          have hq9 := wl_wr f65 (by omega)
          have hL := hq9.2 hL
          have cM67 := hq9.1
          clear hq9
          have hF := hF.wr f65 (by decide) (by decide)
          have hW : WFk M67 := hW.site f65 (by decide)
          have sf65 : M67 133 4 = v66 := sf65
          exact hret _ 156 _ ⟨hI, hW⟩ ⟨hF, ⟨hL, by omega⟩⟩ dX12_readEvent_156
        · exact hret _ 92 _ ⟨hI, hW⟩ ⟨hF, ⟨hL, by omega⟩⟩ dX12_readEvent_92
    · refine z_aload_n F dX12_readEvent_51 rfl (q := 3) rfl ?_
      refine z_ldcS (j := 67) F dX12_readEvent_52 rfl rfl rfl ?_
      refine z_eq (st' := [.ref (ad 1067), .ref (ad 131)]) rfl rfl rfl ?_
      refine zv_i (rest := []) F (kp_X12_isWord_131_1067 l M12 ⟨hI, hW⟩ (by omega)) cs_X12_123 (T := TX12) (N := 44) (ci := 12) rfl gs_131 (by decide) (by decide) rfl rfl rfl (Nat.le_of_ble_eq_true rfl) dX12_readEvent_54 (fun v68 M69 rv68 hI p70 => ?_)
      obtain ⟨hI, hW⟩ := hI
      obtain ⟨⟨av68, bv68⟩, rfl, xp70⟩ := p70
      refine z_if_ne (tgt := 65) F dX12_readEvent_57 (by decide +kernel) (by omega) (fun c71 => ?_) (fun c71 => ?_)
      · refine z_aload_n F dX12_readEvent_65 rfl (q := 3) rfl ?_
        refine gf_X12_108 F hI gs_131 rfl bd_131_12 dX12_readEvent_66 (fun v72 ev72 av72 bv72 => ?_)
        refine z_if_ne (tgt := 76) F dX12_readEvent_69 (by decide +kernel) (by omega) (fun c73 => ?_) (fun c73 => ?_)
        · refine z_aload_n F dX12_readEvent_76 rfl (q := 3) rfl ?_
          refine z_iconst F dX12_readEvent_77 ?_
          refine z_bipush F dX12_readEvent_78 (by decide +kernel) ?_
          refine zv_i (rest := []) F (kp_X12_number l M12 ⟨hI, hW⟩ 1 (by omega) (by omega) 9 (by omega) (by omega) (by omega)) cs_X12_199 (T := TX12) (N := 44) (ci := 12) rfl gs_131 (by decide) (by decide) rfl rfl rfl (Nat.le_of_ble_eq_true rfl) dX12_readEvent_80 (fun v74 M75 rv74 hI p76 => ?_)
          obtain ⟨hI, hW⟩ := hI
          obtain ⟨⟨av74, bv74⟩, fp76, xp76⟩ := p76
          have hF := hF.call fp76 (by decide)
          have tM75_133_6 : M75 133 6 = M12 133 6 := fp76.at (by decide)
          have tM75_133_1 : M75 133 1 = M12 133 1 := fp76.at (by decide)
          have tM75_133_2 : M75 133 2 = M12 133 2 := fp76.at (by decide)
          have tM75_133_4 : M75 133 4 = M12 133 4 := fp76.at (by decide)
          have hq9 := wl_fr fp76 (by decide)
          have hL := hq9.2 hL
          have cM75 := hq9.1
          clear hq9
          have hkv74 : 1 ≤ v74 ∧ v74 ≤ 9 := by omega
          refine z_istore F dX12_readEvent_83 (by decide) (ls' := [(4, ii v74), (3, ii v14), (2, ii v11), (1, ii v5), (0, .ref (ad 131))]) rfl ?_
          refine z_aload_n F dX12_readEvent_85 rfl (q := 4) rfl ?_
          refine gf_X12_108 F hI gs_131 rfl bd_131_12 dX12_readEvent_86 (fun v77 ev77 av77 bv77 => ?_)
          refine z_if_eq (tgt := 93) F dX12_readEvent_89 (by decide +kernel) (by omega) (fun c78 => ?_) (fun c78 => ?_)
          · refine z_sipush F dX12_readEvent_93 (by decide +kernel) ?_
            refine z_iconst F dX12_readEvent_96 ?_
            refine z_aload_n F dX12_readEvent_97 rfl (q := 4) rfl ?_
            refine rf_X12_13 F gs_131 rfl dX12_readEvent_98 ?_
            refine z_iconst F dX12_readEvent_101 ?_
            refine z_iald F hI gs_133 (by omega) (by omega) (by decide) (show Bd 133 4 = (0, 6) from rfl) dX12_readEvent_102 (fun v79 (ev79 : v79 = M75 133 4) av79 bv79 => ?_)
            have k80 : 0 ≤ v79 ∧ v79 ≤ 5 := by omega
            refine z_imul F dX12_readEvent_103 ?_
            refine z_iadd F dX12_readEvent_104 ?_
            refine z_nm (fun v81 ev81 => ?_)
            refine z_istore F dX12_readEvent_105 (by decide) (ls' := [(5, ii v81), (4, ii v74), (3, ii v14), (2, ii v11), (1, ii v5), (0, .ref (ad 131))]) rfl ?_
            refine z_aload_n F dX12_readEvent_107 rfl (q := 5) rfl ?_
            refine rf_X12_13 F gs_131 rfl dX12_readEvent_108 ?_
            refine z_iload F dX12_readEvent_111 (q := 0) rfl ?_
            refine z_iload_n F dX12_readEvent_113 rfl (q := 4) rfl ?_
            refine z_iast F hI gs_133 (by omega) (by omega) (by decide) (bd_133.trans (kn_ev0 (by omega) (by omega) (by omega))) dX12_readEvent_114 (by omega) (by omega) (fun M83 hI sf82 f82 => ?_)
            have tM83_131_7 : M83 131 7 = M75 131 7 := f82 131 7 (fun q => absurd q.1 (by decide))
            have tM83_131_8 : M83 131 8 = M75 131 8 := f82 131 8 (fun q => absurd q.1 (by decide))
            have tM83_131_9 : M83 131 9 = M75 131 9 := f82 131 9 (fun q => absurd q.1 (by decide))
            have tM83_131_10 : M83 131 10 = M75 131 10 := f82 131 10 (fun q => absurd q.1 (by decide))
            have tM83_131_12 : M83 131 12 = M75 131 12 := f82 131 12 (fun q => absurd q.1 (by decide))
            have tM83_131_16 : M83 131 16 = M75 131 16 := f82 131 16 (fun q => absurd q.1 (by decide))
            have tM83_133_6 : M83 133 6 = M75 133 6 := f82 133 6 (fun q => by have := q.2; omega)
            have tM83_133_1 : M83 133 1 = M75 133 1 := f82 133 1 (fun q => by have := q.2; omega)
            have tM83_133_2 : M83 133 2 = M75 133 2 := f82 133 2 (fun q => by have := q.2; omega)
            have tM83_133_4 : M83 133 4 = M75 133 4 := f82 133 4 (fun q => by have := q.2; omega)
            have hq9 := wl_wr f82 (by omega)
            have hL := hq9.2 hL
            have cM83 := hq9.1
            clear hq9
            have hF := hF.wr f82 (by decide) (by decide)
            have hW : WFk M83 := hW.site f82 (by decide)
            refine z_aload_n F dX12_readEvent_115 rfl (q := 5) rfl ?_
            refine rf_X12_13 F gs_131 rfl dX12_readEvent_116 ?_
            refine z_iload F dX12_readEvent_119 (q := 0) rfl ?_
            refine z_iconst F dX12_readEvent_121 ?_
            refine z_iadd F dX12_readEvent_122 ?_
            refine z_iload_n F dX12_readEvent_123 rfl (q := 3) rfl ?_
            refine z_iast F hI gs_133 (by omega) (by omega) (by decide) (bd_133.trans (kn_ev1 (by omega) (by omega) (by omega))) dX12_readEvent_124 (by omega) (by omega) (fun M85 hI sf84 f84 => ?_)
            have tM85_131_7 : M85 131 7 = M83 131 7 := f84 131 7 (fun q => absurd q.1 (by decide))
            have tM85_131_8 : M85 131 8 = M83 131 8 := f84 131 8 (fun q => absurd q.1 (by decide))
            have tM85_131_9 : M85 131 9 = M83 131 9 := f84 131 9 (fun q => absurd q.1 (by decide))
            have tM85_131_10 : M85 131 10 = M83 131 10 := f84 131 10 (fun q => absurd q.1 (by decide))
            have tM85_131_12 : M85 131 12 = M83 131 12 := f84 131 12 (fun q => absurd q.1 (by decide))
            have tM85_131_16 : M85 131 16 = M83 131 16 := f84 131 16 (fun q => absurd q.1 (by decide))
            have tM85_133_6 : M85 133 6 = M83 133 6 := f84 133 6 (fun q => by have := q.2; omega)
            have tM85_133_1 : M85 133 1 = M83 133 1 := f84 133 1 (fun q => by have := q.2; omega)
            have tM85_133_2 : M85 133 2 = M83 133 2 := f84 133 2 (fun q => by have := q.2; omega)
            have tM85_133_4 : M85 133 4 = M83 133 4 := f84 133 4 (fun q => by have := q.2; omega)
            have hq9 := wl_wr f84 (by omega)
            have hL := hq9.2 hL
            have cM85 := hq9.1
            clear hq9
            have hF := hF.wr f84 (by decide) (by decide)
            have hW : WFk M85 := hW.site f84 (by decide)
            refine z_aload_n F dX12_readEvent_125 rfl (q := 5) rfl ?_
            refine rf_X12_13 F gs_131 rfl dX12_readEvent_126 ?_
            refine z_iload F dX12_readEvent_129 (q := 0) rfl ?_
            refine z_iconst F dX12_readEvent_131 ?_
            refine z_iadd F dX12_readEvent_132 ?_
            refine z_iload_n F dX12_readEvent_133 rfl (q := 2) rfl ?_
            refine z_if_eq (tgt := 143) F dX12_readEvent_134 (by decide +kernel) (by omega) (fun c86 => ?_) (fun c86 => by exfalso; omega)
            refine z_iload F dX12_readEvent_143 (q := 1) rfl ?_
            refine z_iast F hI gs_133 (by omega) (by omega) (by decide) (bd_133.trans (kn_ev2 (by omega) (by omega) (by omega))) dX12_readEvent_145 (by omega) (by omega) (fun M88 hI sf87 f87 => ?_)
            have tM88_131_7 : M88 131 7 = M85 131 7 := f87 131 7 (fun q => absurd q.1 (by decide))
            have tM88_131_8 : M88 131 8 = M85 131 8 := f87 131 8 (fun q => absurd q.1 (by decide))
            have tM88_131_9 : M88 131 9 = M85 131 9 := f87 131 9 (fun q => absurd q.1 (by decide))
            have tM88_131_10 : M88 131 10 = M85 131 10 := f87 131 10 (fun q => absurd q.1 (by decide))
            have tM88_131_12 : M88 131 12 = M85 131 12 := f87 131 12 (fun q => absurd q.1 (by decide))
            have tM88_131_16 : M88 131 16 = M85 131 16 := f87 131 16 (fun q => absurd q.1 (by decide))
            have tM88_133_6 : M88 133 6 = M85 133 6 := f87 133 6 (fun q => by have := q.2; omega)
            have tM88_133_1 : M88 133 1 = M85 133 1 := f87 133 1 (fun q => by have := q.2; omega)
            have tM88_133_2 : M88 133 2 = M85 133 2 := f87 133 2 (fun q => by have := q.2; omega)
            have tM88_133_4 : M88 133 4 = M85 133 4 := f87 133 4 (fun q => by have := q.2; omega)
            have hq9 := wl_wr f87 (by omega)
            have hL := hq9.2 hL
            have cM88 := hq9.1
            clear hq9
            have hF := hF.wr f87 (by decide) (by decide)
            have hW : WFk M88 := hW.site f87 (by decide)
            refine z_aload_n F dX12_readEvent_146 rfl (q := 5) rfl ?_
            refine rf_X12_13 F gs_131 rfl dX12_readEvent_147 ?_
            refine z_iconst F dX12_readEvent_150 ?_
            refine z_dup2 F dX12_readEvent_151 rfl rfl ?_
            refine z_iald F hI gs_133 (by omega) (by omega) (by decide) (show Bd 133 4 = (0, 6) from rfl) dX12_readEvent_152 (fun v89 (ev89 : v89 = M88 133 4) av89 bv89 => ?_)
            have q90 : v79 = M83 133 4 := ev79.trans (f82 133 4 (fun q => by omega)).symm
            have q91 : v79 = M85 133 4 := q90.trans (f84 133 4 (fun q => by omega)).symm
            have q92 : v79 = M88 133 4 := q91.trans (f87 133 4 (fun q => by omega)).symm
            have zv89 : v79 = v89 := q92.trans ev89.symm
            subst zv89
            refine z_iconst F dX12_readEvent_153 ?_
            refine z_iadd F dX12_readEvent_154 ?_
            refine z_nm (fun v94 ev94 => ?_)
            refine z_iast F hI gs_133 (by omega) (by omega) (by decide) (show Bd 133 4 = (0, 6) from rfl) dX12_readEvent_155 (by omega) (by omega) (fun M95 hI sf93 f93 => ?_)
            have tM95_131_7 : M95 131 7 = M88 131 7 := f93 131 7 (fun q => absurd q.1 (by decide))
            have tM95_131_8 : M95 131 8 = M88 131 8 := f93 131 8 (fun q => absurd q.1 (by decide))
            have tM95_131_9 : M95 131 9 = M88 131 9 := f93 131 9 (fun q => absurd q.1 (by decide))
            have tM95_131_10 : M95 131 10 = M88 131 10 := f93 131 10 (fun q => absurd q.1 (by decide))
            have tM95_131_12 : M95 131 12 = M88 131 12 := f93 131 12 (fun q => absurd q.1 (by decide))
            have tM95_131_16 : M95 131 16 = M88 131 16 := f93 131 16 (fun q => absurd q.1 (by decide))
            have tM95_133_6 : M95 133 6 = M88 133 6 := f93 133 6 (fun q => absurd q.2 (by decide))
            have tM95_133_1 : M95 133 1 = M88 133 1 := f93 133 1 (fun q => absurd q.2 (by decide))
            have tM95_133_2 : M95 133 2 = M88 133 2 := f93 133 2 (fun q => absurd q.2 (by decide))
            have hq9 := wl_wr f93 (by omega)
            have hL := hq9.2 hL
            have cM95 := hq9.1
            clear hq9
            have hF := hF.wr f93 (by decide) (by decide)
            have hW : WFk M95 := hW.site f93 (by decide)
            have sf93 : M95 133 4 = v94 := sf93
            exact hret _ 156 _ ⟨hI, hW⟩ ⟨hF, ⟨hL, by omega⟩⟩ dX12_readEvent_156
          · exact hret _ 92 _ ⟨hI, hW⟩ ⟨hF, ⟨hL, by omega⟩⟩ dX12_readEvent_92
        · refine z_aload_n F dX12_readEvent_72 rfl (q := 3) rfl ?_
          refine zv_v (rest := []) F (kp_X12_readsOn l M12 ⟨hI, hW⟩ (by omega)) cs_X12_127 (T := TX12) (N := 44) (ci := 12) rfl gs_131 (by decide) (by decide) rfl rfl rfl (Nat.le_of_ble_eq_true rfl) dX12_readEvent_73 (fun M96 hI p97 => ?_)
          obtain ⟨hI, hW⟩ := hI
          obtain ⟨fp97, xp97⟩ := p97
          have hF := hF.call fp97 (by decide)
          have tM96_133_6 : M96 133 6 = M12 133 6 := fp97.at (by decide)
          have tM96_133_1 : M96 133 1 = M12 133 1 := fp97.at (by decide)
          have tM96_133_2 : M96 133 2 = M12 133 2 := fp97.at (by decide)
          have tM96_133_4 : M96 133 4 = M12 133 4 := fp97.at (by decide)
          have hq9 := wl_fr fp97 (by decide)
          have hL := hq9.2 hL
          have cM96 := hq9.1
          clear hq9
          refine z_aload_n F dX12_readEvent_76 rfl (q := 3) rfl ?_
          refine z_iconst F dX12_readEvent_77 ?_
          refine z_bipush F dX12_readEvent_78 (by decide +kernel) ?_
          refine zv_i (rest := []) F (kp_X12_number l M96 ⟨hI, hW⟩ 1 (by omega) (by omega) 9 (by omega) (by omega) (by omega)) cs_X12_199 (T := TX12) (N := 44) (ci := 12) rfl gs_131 (by decide) (by decide) rfl rfl rfl (Nat.le_of_ble_eq_true rfl) dX12_readEvent_80 (fun v98 M99 rv98 hI p100 => ?_)
          obtain ⟨hI, hW⟩ := hI
          obtain ⟨⟨av98, bv98⟩, fp100, xp100⟩ := p100
          have hF := hF.call fp100 (by decide)
          have tM99_133_6 : M99 133 6 = M96 133 6 := fp100.at (by decide)
          have tM99_133_1 : M99 133 1 = M96 133 1 := fp100.at (by decide)
          have tM99_133_2 : M99 133 2 = M96 133 2 := fp100.at (by decide)
          have tM99_133_4 : M99 133 4 = M96 133 4 := fp100.at (by decide)
          have hq9 := wl_fr fp100 (by decide)
          have hL := hq9.2 hL
          have cM99 := hq9.1
          clear hq9
          have hkv98 : 1 ≤ v98 ∧ v98 ≤ 9 := by omega
          refine z_istore F dX12_readEvent_83 (by decide) (ls' := [(4, ii v98), (3, ii v14), (2, ii v11), (1, ii v5), (0, .ref (ad 131))]) rfl ?_
          refine z_aload_n F dX12_readEvent_85 rfl (q := 4) rfl ?_
          refine gf_X12_108 F hI gs_131 rfl bd_131_12 dX12_readEvent_86 (fun v101 ev101 av101 bv101 => ?_)
          refine z_if_eq (tgt := 93) F dX12_readEvent_89 (by decide +kernel) (by omega) (fun c102 => ?_) (fun c102 => ?_)
          · refine z_sipush F dX12_readEvent_93 (by decide +kernel) ?_
            refine z_iconst F dX12_readEvent_96 ?_
            refine z_aload_n F dX12_readEvent_97 rfl (q := 4) rfl ?_
            refine rf_X12_13 F gs_131 rfl dX12_readEvent_98 ?_
            refine z_iconst F dX12_readEvent_101 ?_
            refine z_iald F hI gs_133 (by omega) (by omega) (by decide) (show Bd 133 4 = (0, 6) from rfl) dX12_readEvent_102 (fun v103 (ev103 : v103 = M99 133 4) av103 bv103 => ?_)
            have k104 : 0 ≤ v103 ∧ v103 ≤ 5 := by omega
            refine z_imul F dX12_readEvent_103 ?_
            refine z_iadd F dX12_readEvent_104 ?_
            refine z_nm (fun v105 ev105 => ?_)
            refine z_istore F dX12_readEvent_105 (by decide) (ls' := [(5, ii v105), (4, ii v98), (3, ii v14), (2, ii v11), (1, ii v5), (0, .ref (ad 131))]) rfl ?_
            refine z_aload_n F dX12_readEvent_107 rfl (q := 5) rfl ?_
            refine rf_X12_13 F gs_131 rfl dX12_readEvent_108 ?_
            refine z_iload F dX12_readEvent_111 (q := 0) rfl ?_
            refine z_iload_n F dX12_readEvent_113 rfl (q := 4) rfl ?_
            refine z_iast F hI gs_133 (by omega) (by omega) (by decide) (bd_133.trans (kn_ev0 (by omega) (by omega) (by omega))) dX12_readEvent_114 (by omega) (by omega) (fun M107 hI sf106 f106 => ?_)
            have tM107_131_7 : M107 131 7 = M99 131 7 := f106 131 7 (fun q => absurd q.1 (by decide))
            have tM107_131_8 : M107 131 8 = M99 131 8 := f106 131 8 (fun q => absurd q.1 (by decide))
            have tM107_131_9 : M107 131 9 = M99 131 9 := f106 131 9 (fun q => absurd q.1 (by decide))
            have tM107_131_10 : M107 131 10 = M99 131 10 := f106 131 10 (fun q => absurd q.1 (by decide))
            have tM107_131_12 : M107 131 12 = M99 131 12 := f106 131 12 (fun q => absurd q.1 (by decide))
            have tM107_131_16 : M107 131 16 = M99 131 16 := f106 131 16 (fun q => absurd q.1 (by decide))
            have tM107_133_6 : M107 133 6 = M99 133 6 := f106 133 6 (fun q => by have := q.2; omega)
            have tM107_133_1 : M107 133 1 = M99 133 1 := f106 133 1 (fun q => by have := q.2; omega)
            have tM107_133_2 : M107 133 2 = M99 133 2 := f106 133 2 (fun q => by have := q.2; omega)
            have tM107_133_4 : M107 133 4 = M99 133 4 := f106 133 4 (fun q => by have := q.2; omega)
            have hq9 := wl_wr f106 (by omega)
            have hL := hq9.2 hL
            have cM107 := hq9.1
            clear hq9
            have hF := hF.wr f106 (by decide) (by decide)
            have hW : WFk M107 := hW.site f106 (by decide)
            refine z_aload_n F dX12_readEvent_115 rfl (q := 5) rfl ?_
            refine rf_X12_13 F gs_131 rfl dX12_readEvent_116 ?_
            refine z_iload F dX12_readEvent_119 (q := 0) rfl ?_
            refine z_iconst F dX12_readEvent_121 ?_
            refine z_iadd F dX12_readEvent_122 ?_
            refine z_iload_n F dX12_readEvent_123 rfl (q := 3) rfl ?_
            refine z_iast F hI gs_133 (by omega) (by omega) (by decide) (bd_133.trans (kn_ev1 (by omega) (by omega) (by omega))) dX12_readEvent_124 (by omega) (by omega) (fun M109 hI sf108 f108 => ?_)
            have tM109_131_7 : M109 131 7 = M107 131 7 := f108 131 7 (fun q => absurd q.1 (by decide))
            have tM109_131_8 : M109 131 8 = M107 131 8 := f108 131 8 (fun q => absurd q.1 (by decide))
            have tM109_131_9 : M109 131 9 = M107 131 9 := f108 131 9 (fun q => absurd q.1 (by decide))
            have tM109_131_10 : M109 131 10 = M107 131 10 := f108 131 10 (fun q => absurd q.1 (by decide))
            have tM109_131_12 : M109 131 12 = M107 131 12 := f108 131 12 (fun q => absurd q.1 (by decide))
            have tM109_131_16 : M109 131 16 = M107 131 16 := f108 131 16 (fun q => absurd q.1 (by decide))
            have tM109_133_6 : M109 133 6 = M107 133 6 := f108 133 6 (fun q => by have := q.2; omega)
            have tM109_133_1 : M109 133 1 = M107 133 1 := f108 133 1 (fun q => by have := q.2; omega)
            have tM109_133_2 : M109 133 2 = M107 133 2 := f108 133 2 (fun q => by have := q.2; omega)
            have tM109_133_4 : M109 133 4 = M107 133 4 := f108 133 4 (fun q => by have := q.2; omega)
            have hq9 := wl_wr f108 (by omega)
            have hL := hq9.2 hL
            have cM109 := hq9.1
            clear hq9
            have hF := hF.wr f108 (by decide) (by decide)
            have hW : WFk M109 := hW.site f108 (by decide)
            refine z_aload_n F dX12_readEvent_125 rfl (q := 5) rfl ?_
            refine rf_X12_13 F gs_131 rfl dX12_readEvent_126 ?_
            refine z_iload F dX12_readEvent_129 (q := 0) rfl ?_
            refine z_iconst F dX12_readEvent_131 ?_
            refine z_iadd F dX12_readEvent_132 ?_
            refine z_iload_n F dX12_readEvent_133 rfl (q := 2) rfl ?_
            refine z_if_eq (tgt := 143) F dX12_readEvent_134 (by decide +kernel) (by omega) (fun c110 => ?_) (fun c110 => by exfalso; omega)
            refine z_iload F dX12_readEvent_143 (q := 1) rfl ?_
            refine z_iast F hI gs_133 (by omega) (by omega) (by decide) (bd_133.trans (kn_ev2 (by omega) (by omega) (by omega))) dX12_readEvent_145 (by omega) (by omega) (fun M112 hI sf111 f111 => ?_)
            have tM112_131_7 : M112 131 7 = M109 131 7 := f111 131 7 (fun q => absurd q.1 (by decide))
            have tM112_131_8 : M112 131 8 = M109 131 8 := f111 131 8 (fun q => absurd q.1 (by decide))
            have tM112_131_9 : M112 131 9 = M109 131 9 := f111 131 9 (fun q => absurd q.1 (by decide))
            have tM112_131_10 : M112 131 10 = M109 131 10 := f111 131 10 (fun q => absurd q.1 (by decide))
            have tM112_131_12 : M112 131 12 = M109 131 12 := f111 131 12 (fun q => absurd q.1 (by decide))
            have tM112_131_16 : M112 131 16 = M109 131 16 := f111 131 16 (fun q => absurd q.1 (by decide))
            have tM112_133_6 : M112 133 6 = M109 133 6 := f111 133 6 (fun q => by have := q.2; omega)
            have tM112_133_1 : M112 133 1 = M109 133 1 := f111 133 1 (fun q => by have := q.2; omega)
            have tM112_133_2 : M112 133 2 = M109 133 2 := f111 133 2 (fun q => by have := q.2; omega)
            have tM112_133_4 : M112 133 4 = M109 133 4 := f111 133 4 (fun q => by have := q.2; omega)
            have hq9 := wl_wr f111 (by omega)
            have hL := hq9.2 hL
            have cM112 := hq9.1
            clear hq9
            have hF := hF.wr f111 (by decide) (by decide)
            have hW : WFk M112 := hW.site f111 (by decide)
            refine z_aload_n F dX12_readEvent_146 rfl (q := 5) rfl ?_
            refine rf_X12_13 F gs_131 rfl dX12_readEvent_147 ?_
            refine z_iconst F dX12_readEvent_150 ?_
            refine z_dup2 F dX12_readEvent_151 rfl rfl ?_
            refine z_iald F hI gs_133 (by omega) (by omega) (by decide) (show Bd 133 4 = (0, 6) from rfl) dX12_readEvent_152 (fun v113 (ev113 : v113 = M112 133 4) av113 bv113 => ?_)
            have q114 : v103 = M107 133 4 := ev103.trans (f106 133 4 (fun q => by omega)).symm
            have q115 : v103 = M109 133 4 := q114.trans (f108 133 4 (fun q => by omega)).symm
            have q116 : v103 = M112 133 4 := q115.trans (f111 133 4 (fun q => by omega)).symm
            have zv113 : v103 = v113 := q116.trans ev113.symm
            subst zv113
            refine z_iconst F dX12_readEvent_153 ?_
            refine z_iadd F dX12_readEvent_154 ?_
            refine z_nm (fun v118 ev118 => ?_)
            refine z_iast F hI gs_133 (by omega) (by omega) (by decide) (show Bd 133 4 = (0, 6) from rfl) dX12_readEvent_155 (by omega) (by omega) (fun M119 hI sf117 f117 => ?_)
            have tM119_131_7 : M119 131 7 = M112 131 7 := f117 131 7 (fun q => absurd q.1 (by decide))
            have tM119_131_8 : M119 131 8 = M112 131 8 := f117 131 8 (fun q => absurd q.1 (by decide))
            have tM119_131_9 : M119 131 9 = M112 131 9 := f117 131 9 (fun q => absurd q.1 (by decide))
            have tM119_131_10 : M119 131 10 = M112 131 10 := f117 131 10 (fun q => absurd q.1 (by decide))
            have tM119_131_12 : M119 131 12 = M112 131 12 := f117 131 12 (fun q => absurd q.1 (by decide))
            have tM119_131_16 : M119 131 16 = M112 131 16 := f117 131 16 (fun q => absurd q.1 (by decide))
            have tM119_133_6 : M119 133 6 = M112 133 6 := f117 133 6 (fun q => absurd q.2 (by decide))
            have tM119_133_1 : M119 133 1 = M112 133 1 := f117 133 1 (fun q => absurd q.2 (by decide))
            have tM119_133_2 : M119 133 2 = M112 133 2 := f117 133 2 (fun q => absurd q.2 (by decide))
            have hq9 := wl_wr f117 (by omega)
            have hL := hq9.2 hL
            have cM119 := hq9.1
            clear hq9
            have hF := hF.wr f117 (by decide) (by decide)
            have hW : WFk M119 := hW.site f117 (by decide)
            have sf117 : M119 133 4 = v118 := sf117
            exact hret _ 156 _ ⟨hI, hW⟩ ⟨hF, ⟨hL, by omega⟩⟩ dX12_readEvent_156
          · exact hret _ 92 _ ⟨hI, hW⟩ ⟨hF, ⟨hL, by omega⟩⟩ dX12_readEvent_92
      · refine z_aload_n F dX12_readEvent_60 rfl (q := 3) rfl ?_
        refine z_iconst F dX12_readEvent_61 ?_
        refine zv_v (rest := []) F (kp_X12_blames l M12 ⟨hI, hW⟩ 2 (by omega) (by omega)) cs_X12_133 (T := TX12) (N := 44) (ci := 12) rfl gs_131 (by decide) (by decide) rfl rfl rfl (Nat.le_of_ble_eq_true rfl) dX12_readEvent_62 (fun M120 hI p121 => ?_)
        obtain ⟨hI, hW⟩ := hI
        obtain ⟨fp121, xp121⟩ := p121
        have hF := hF.call fp121 (by decide)
        have tM120_133_6 : M120 133 6 = M12 133 6 := fp121.at (by decide)
        have tM120_133_1 : M120 133 1 = M12 133 1 := fp121.at (by decide)
        have tM120_133_2 : M120 133 2 = M12 133 2 := fp121.at (by decide)
        have tM120_133_4 : M120 133 4 = M12 133 4 := fp121.at (by decide)
        have hq9 := wl_fr fp121 (by decide)
        have hL := hq9.2 hL
        have cM120 := hq9.1
        clear hq9
        refine z_aload_n F dX12_readEvent_65 rfl (q := 3) rfl ?_
        refine gf_X12_108 F hI gs_131 rfl bd_131_12 dX12_readEvent_66 (fun v122 ev122 av122 bv122 => ?_)
        refine z_if_ne (tgt := 76) F dX12_readEvent_69 (by decide +kernel) (by omega) (fun c123 => ?_) (fun c123 => ?_)
        · refine z_aload_n F dX12_readEvent_76 rfl (q := 3) rfl ?_
          refine z_iconst F dX12_readEvent_77 ?_
          refine z_bipush F dX12_readEvent_78 (by decide +kernel) ?_
          refine zv_i (rest := []) F (kp_X12_number l M120 ⟨hI, hW⟩ 1 (by omega) (by omega) 9 (by omega) (by omega) (by omega)) cs_X12_199 (T := TX12) (N := 44) (ci := 12) rfl gs_131 (by decide) (by decide) rfl rfl rfl (Nat.le_of_ble_eq_true rfl) dX12_readEvent_80 (fun v124 M125 rv124 hI p126 => ?_)
          obtain ⟨hI, hW⟩ := hI
          obtain ⟨⟨av124, bv124⟩, fp126, xp126⟩ := p126
          have hF := hF.call fp126 (by decide)
          have tM125_133_6 : M125 133 6 = M120 133 6 := fp126.at (by decide)
          have tM125_133_1 : M125 133 1 = M120 133 1 := fp126.at (by decide)
          have tM125_133_2 : M125 133 2 = M120 133 2 := fp126.at (by decide)
          have tM125_133_4 : M125 133 4 = M120 133 4 := fp126.at (by decide)
          have hq9 := wl_fr fp126 (by decide)
          have hL := hq9.2 hL
          have cM125 := hq9.1
          clear hq9
          have hkv124 : 1 ≤ v124 ∧ v124 ≤ 9 := by omega
          refine z_istore F dX12_readEvent_83 (by decide) (ls' := [(4, ii v124), (3, ii v14), (2, ii v11), (1, ii v5), (0, .ref (ad 131))]) rfl ?_
          refine z_aload_n F dX12_readEvent_85 rfl (q := 4) rfl ?_
          refine gf_X12_108 F hI gs_131 rfl bd_131_12 dX12_readEvent_86 (fun v127 ev127 av127 bv127 => ?_)
          refine z_if_eq (tgt := 93) F dX12_readEvent_89 (by decide +kernel) (by omega) (fun c128 => ?_) (fun c128 => ?_)
          · refine z_sipush F dX12_readEvent_93 (by decide +kernel) ?_
            refine z_iconst F dX12_readEvent_96 ?_
            refine z_aload_n F dX12_readEvent_97 rfl (q := 4) rfl ?_
            refine rf_X12_13 F gs_131 rfl dX12_readEvent_98 ?_
            refine z_iconst F dX12_readEvent_101 ?_
            refine z_iald F hI gs_133 (by omega) (by omega) (by decide) (show Bd 133 4 = (0, 6) from rfl) dX12_readEvent_102 (fun v129 (ev129 : v129 = M125 133 4) av129 bv129 => ?_)
            have k130 : 0 ≤ v129 ∧ v129 ≤ 5 := by omega
            refine z_imul F dX12_readEvent_103 ?_
            refine z_iadd F dX12_readEvent_104 ?_
            refine z_nm (fun v131 ev131 => ?_)
            refine z_istore F dX12_readEvent_105 (by decide) (ls' := [(5, ii v131), (4, ii v124), (3, ii v14), (2, ii v11), (1, ii v5), (0, .ref (ad 131))]) rfl ?_
            refine z_aload_n F dX12_readEvent_107 rfl (q := 5) rfl ?_
            refine rf_X12_13 F gs_131 rfl dX12_readEvent_108 ?_
            refine z_iload F dX12_readEvent_111 (q := 0) rfl ?_
            refine z_iload_n F dX12_readEvent_113 rfl (q := 4) rfl ?_
            refine z_iast F hI gs_133 (by omega) (by omega) (by decide) (bd_133.trans (kn_ev0 (by omega) (by omega) (by omega))) dX12_readEvent_114 (by omega) (by omega) (fun M133 hI sf132 f132 => ?_)
            have tM133_131_7 : M133 131 7 = M125 131 7 := f132 131 7 (fun q => absurd q.1 (by decide))
            have tM133_131_8 : M133 131 8 = M125 131 8 := f132 131 8 (fun q => absurd q.1 (by decide))
            have tM133_131_9 : M133 131 9 = M125 131 9 := f132 131 9 (fun q => absurd q.1 (by decide))
            have tM133_131_10 : M133 131 10 = M125 131 10 := f132 131 10 (fun q => absurd q.1 (by decide))
            have tM133_131_12 : M133 131 12 = M125 131 12 := f132 131 12 (fun q => absurd q.1 (by decide))
            have tM133_131_16 : M133 131 16 = M125 131 16 := f132 131 16 (fun q => absurd q.1 (by decide))
            have tM133_133_6 : M133 133 6 = M125 133 6 := f132 133 6 (fun q => by have := q.2; omega)
            have tM133_133_1 : M133 133 1 = M125 133 1 := f132 133 1 (fun q => by have := q.2; omega)
            have tM133_133_2 : M133 133 2 = M125 133 2 := f132 133 2 (fun q => by have := q.2; omega)
            have tM133_133_4 : M133 133 4 = M125 133 4 := f132 133 4 (fun q => by have := q.2; omega)
            have hq9 := wl_wr f132 (by omega)
            have hL := hq9.2 hL
            have cM133 := hq9.1
            clear hq9
            have hF := hF.wr f132 (by decide) (by decide)
            have hW : WFk M133 := hW.site f132 (by decide)
            refine z_aload_n F dX12_readEvent_115 rfl (q := 5) rfl ?_
            refine rf_X12_13 F gs_131 rfl dX12_readEvent_116 ?_
            refine z_iload F dX12_readEvent_119 (q := 0) rfl ?_
            refine z_iconst F dX12_readEvent_121 ?_
            refine z_iadd F dX12_readEvent_122 ?_
            refine z_iload_n F dX12_readEvent_123 rfl (q := 3) rfl ?_
            refine z_iast F hI gs_133 (by omega) (by omega) (by decide) (bd_133.trans (kn_ev1 (by omega) (by omega) (by omega))) dX12_readEvent_124 (by omega) (by omega) (fun M135 hI sf134 f134 => ?_)
            have tM135_131_7 : M135 131 7 = M133 131 7 := f134 131 7 (fun q => absurd q.1 (by decide))
            have tM135_131_8 : M135 131 8 = M133 131 8 := f134 131 8 (fun q => absurd q.1 (by decide))
            have tM135_131_9 : M135 131 9 = M133 131 9 := f134 131 9 (fun q => absurd q.1 (by decide))
            have tM135_131_10 : M135 131 10 = M133 131 10 := f134 131 10 (fun q => absurd q.1 (by decide))
            have tM135_131_12 : M135 131 12 = M133 131 12 := f134 131 12 (fun q => absurd q.1 (by decide))
            have tM135_131_16 : M135 131 16 = M133 131 16 := f134 131 16 (fun q => absurd q.1 (by decide))
            have tM135_133_6 : M135 133 6 = M133 133 6 := f134 133 6 (fun q => by have := q.2; omega)
            have tM135_133_1 : M135 133 1 = M133 133 1 := f134 133 1 (fun q => by have := q.2; omega)
            have tM135_133_2 : M135 133 2 = M133 133 2 := f134 133 2 (fun q => by have := q.2; omega)
            have tM135_133_4 : M135 133 4 = M133 133 4 := f134 133 4 (fun q => by have := q.2; omega)
            have hq9 := wl_wr f134 (by omega)
            have hL := hq9.2 hL
            have cM135 := hq9.1
            clear hq9
            have hF := hF.wr f134 (by decide) (by decide)
            have hW : WFk M135 := hW.site f134 (by decide)
            refine z_aload_n F dX12_readEvent_125 rfl (q := 5) rfl ?_
            refine rf_X12_13 F gs_131 rfl dX12_readEvent_126 ?_
            refine z_iload F dX12_readEvent_129 (q := 0) rfl ?_
            refine z_iconst F dX12_readEvent_131 ?_
            refine z_iadd F dX12_readEvent_132 ?_
            refine z_iload_n F dX12_readEvent_133 rfl (q := 2) rfl ?_
            refine z_if_eq (tgt := 143) F dX12_readEvent_134 (by decide +kernel) (by omega) (fun c136 => ?_) (fun c136 => by exfalso; omega)
            refine z_iload F dX12_readEvent_143 (q := 1) rfl ?_
            refine z_iast F hI gs_133 (by omega) (by omega) (by decide) (bd_133.trans (kn_ev2 (by omega) (by omega) (by omega))) dX12_readEvent_145 (by omega) (by omega) (fun M138 hI sf137 f137 => ?_)
            have tM138_131_7 : M138 131 7 = M135 131 7 := f137 131 7 (fun q => absurd q.1 (by decide))
            have tM138_131_8 : M138 131 8 = M135 131 8 := f137 131 8 (fun q => absurd q.1 (by decide))
            have tM138_131_9 : M138 131 9 = M135 131 9 := f137 131 9 (fun q => absurd q.1 (by decide))
            have tM138_131_10 : M138 131 10 = M135 131 10 := f137 131 10 (fun q => absurd q.1 (by decide))
            have tM138_131_12 : M138 131 12 = M135 131 12 := f137 131 12 (fun q => absurd q.1 (by decide))
            have tM138_131_16 : M138 131 16 = M135 131 16 := f137 131 16 (fun q => absurd q.1 (by decide))
            have tM138_133_6 : M138 133 6 = M135 133 6 := f137 133 6 (fun q => by have := q.2; omega)
            have tM138_133_1 : M138 133 1 = M135 133 1 := f137 133 1 (fun q => by have := q.2; omega)
            have tM138_133_2 : M138 133 2 = M135 133 2 := f137 133 2 (fun q => by have := q.2; omega)
            have tM138_133_4 : M138 133 4 = M135 133 4 := f137 133 4 (fun q => by have := q.2; omega)
            have hq9 := wl_wr f137 (by omega)
            have hL := hq9.2 hL
            have cM138 := hq9.1
            clear hq9
            have hF := hF.wr f137 (by decide) (by decide)
            have hW : WFk M138 := hW.site f137 (by decide)
            refine z_aload_n F dX12_readEvent_146 rfl (q := 5) rfl ?_
            refine rf_X12_13 F gs_131 rfl dX12_readEvent_147 ?_
            refine z_iconst F dX12_readEvent_150 ?_
            refine z_dup2 F dX12_readEvent_151 rfl rfl ?_
            refine z_iald F hI gs_133 (by omega) (by omega) (by decide) (show Bd 133 4 = (0, 6) from rfl) dX12_readEvent_152 (fun v139 (ev139 : v139 = M138 133 4) av139 bv139 => ?_)
            have q140 : v129 = M133 133 4 := ev129.trans (f132 133 4 (fun q => by omega)).symm
            have q141 : v129 = M135 133 4 := q140.trans (f134 133 4 (fun q => by omega)).symm
            have q142 : v129 = M138 133 4 := q141.trans (f137 133 4 (fun q => by omega)).symm
            have zv139 : v129 = v139 := q142.trans ev139.symm
            subst zv139
            refine z_iconst F dX12_readEvent_153 ?_
            refine z_iadd F dX12_readEvent_154 ?_
            refine z_nm (fun v144 ev144 => ?_)
            refine z_iast F hI gs_133 (by omega) (by omega) (by decide) (show Bd 133 4 = (0, 6) from rfl) dX12_readEvent_155 (by omega) (by omega) (fun M145 hI sf143 f143 => ?_)
            have tM145_131_7 : M145 131 7 = M138 131 7 := f143 131 7 (fun q => absurd q.1 (by decide))
            have tM145_131_8 : M145 131 8 = M138 131 8 := f143 131 8 (fun q => absurd q.1 (by decide))
            have tM145_131_9 : M145 131 9 = M138 131 9 := f143 131 9 (fun q => absurd q.1 (by decide))
            have tM145_131_10 : M145 131 10 = M138 131 10 := f143 131 10 (fun q => absurd q.1 (by decide))
            have tM145_131_12 : M145 131 12 = M138 131 12 := f143 131 12 (fun q => absurd q.1 (by decide))
            have tM145_131_16 : M145 131 16 = M138 131 16 := f143 131 16 (fun q => absurd q.1 (by decide))
            have tM145_133_6 : M145 133 6 = M138 133 6 := f143 133 6 (fun q => absurd q.2 (by decide))
            have tM145_133_1 : M145 133 1 = M138 133 1 := f143 133 1 (fun q => absurd q.2 (by decide))
            have tM145_133_2 : M145 133 2 = M138 133 2 := f143 133 2 (fun q => absurd q.2 (by decide))
            have hq9 := wl_wr f143 (by omega)
            have hL := hq9.2 hL
            have cM145 := hq9.1
            clear hq9
            have hF := hF.wr f143 (by decide) (by decide)
            have hW : WFk M145 := hW.site f143 (by decide)
            have sf143 : M145 133 4 = v144 := sf143
            exact hret _ 156 _ ⟨hI, hW⟩ ⟨hF, ⟨hL, by omega⟩⟩ dX12_readEvent_156
          · exact hret _ 92 _ ⟨hI, hW⟩ ⟨hF, ⟨hL, by omega⟩⟩ dX12_readEvent_92
        · refine z_aload_n F dX12_readEvent_72 rfl (q := 3) rfl ?_
          refine zv_v (rest := []) F (kp_X12_readsOn l M120 ⟨hI, hW⟩ (by omega)) cs_X12_127 (T := TX12) (N := 44) (ci := 12) rfl gs_131 (by decide) (by decide) rfl rfl rfl (Nat.le_of_ble_eq_true rfl) dX12_readEvent_73 (fun M146 hI p147 => ?_)
          obtain ⟨hI, hW⟩ := hI
          obtain ⟨fp147, xp147⟩ := p147
          have hF := hF.call fp147 (by decide)
          have tM146_133_6 : M146 133 6 = M120 133 6 := fp147.at (by decide)
          have tM146_133_1 : M146 133 1 = M120 133 1 := fp147.at (by decide)
          have tM146_133_2 : M146 133 2 = M120 133 2 := fp147.at (by decide)
          have tM146_133_4 : M146 133 4 = M120 133 4 := fp147.at (by decide)
          have hq9 := wl_fr fp147 (by decide)
          have hL := hq9.2 hL
          have cM146 := hq9.1
          clear hq9
          refine z_aload_n F dX12_readEvent_76 rfl (q := 3) rfl ?_
          refine z_iconst F dX12_readEvent_77 ?_
          refine z_bipush F dX12_readEvent_78 (by decide +kernel) ?_
          refine zv_i (rest := []) F (kp_X12_number l M146 ⟨hI, hW⟩ 1 (by omega) (by omega) 9 (by omega) (by omega) (by omega)) cs_X12_199 (T := TX12) (N := 44) (ci := 12) rfl gs_131 (by decide) (by decide) rfl rfl rfl (Nat.le_of_ble_eq_true rfl) dX12_readEvent_80 (fun v148 M149 rv148 hI p150 => ?_)
          obtain ⟨hI, hW⟩ := hI
          obtain ⟨⟨av148, bv148⟩, fp150, xp150⟩ := p150
          have hF := hF.call fp150 (by decide)
          have tM149_133_6 : M149 133 6 = M146 133 6 := fp150.at (by decide)
          have tM149_133_1 : M149 133 1 = M146 133 1 := fp150.at (by decide)
          have tM149_133_2 : M149 133 2 = M146 133 2 := fp150.at (by decide)
          have tM149_133_4 : M149 133 4 = M146 133 4 := fp150.at (by decide)
          have hq9 := wl_fr fp150 (by decide)
          have hL := hq9.2 hL
          have cM149 := hq9.1
          clear hq9
          have hkv148 : 1 ≤ v148 ∧ v148 ≤ 9 := by omega
          refine z_istore F dX12_readEvent_83 (by decide) (ls' := [(4, ii v148), (3, ii v14), (2, ii v11), (1, ii v5), (0, .ref (ad 131))]) rfl ?_
          refine z_aload_n F dX12_readEvent_85 rfl (q := 4) rfl ?_
          refine gf_X12_108 F hI gs_131 rfl bd_131_12 dX12_readEvent_86 (fun v151 ev151 av151 bv151 => ?_)
          refine z_if_eq (tgt := 93) F dX12_readEvent_89 (by decide +kernel) (by omega) (fun c152 => ?_) (fun c152 => ?_)
          · refine z_sipush F dX12_readEvent_93 (by decide +kernel) ?_
            refine z_iconst F dX12_readEvent_96 ?_
            refine z_aload_n F dX12_readEvent_97 rfl (q := 4) rfl ?_
            refine rf_X12_13 F gs_131 rfl dX12_readEvent_98 ?_
            refine z_iconst F dX12_readEvent_101 ?_
            refine z_iald F hI gs_133 (by omega) (by omega) (by decide) (show Bd 133 4 = (0, 6) from rfl) dX12_readEvent_102 (fun v153 (ev153 : v153 = M149 133 4) av153 bv153 => ?_)
            have k154 : 0 ≤ v153 ∧ v153 ≤ 5 := by omega
            refine z_imul F dX12_readEvent_103 ?_
            refine z_iadd F dX12_readEvent_104 ?_
            refine z_nm (fun v155 ev155 => ?_)
            refine z_istore F dX12_readEvent_105 (by decide) (ls' := [(5, ii v155), (4, ii v148), (3, ii v14), (2, ii v11), (1, ii v5), (0, .ref (ad 131))]) rfl ?_
            refine z_aload_n F dX12_readEvent_107 rfl (q := 5) rfl ?_
            refine rf_X12_13 F gs_131 rfl dX12_readEvent_108 ?_
            refine z_iload F dX12_readEvent_111 (q := 0) rfl ?_
            refine z_iload_n F dX12_readEvent_113 rfl (q := 4) rfl ?_
            refine z_iast F hI gs_133 (by omega) (by omega) (by decide) (bd_133.trans (kn_ev0 (by omega) (by omega) (by omega))) dX12_readEvent_114 (by omega) (by omega) (fun M157 hI sf156 f156 => ?_)
            have tM157_131_7 : M157 131 7 = M149 131 7 := f156 131 7 (fun q => absurd q.1 (by decide))
            have tM157_131_8 : M157 131 8 = M149 131 8 := f156 131 8 (fun q => absurd q.1 (by decide))
            have tM157_131_9 : M157 131 9 = M149 131 9 := f156 131 9 (fun q => absurd q.1 (by decide))
            have tM157_131_10 : M157 131 10 = M149 131 10 := f156 131 10 (fun q => absurd q.1 (by decide))
            have tM157_131_12 : M157 131 12 = M149 131 12 := f156 131 12 (fun q => absurd q.1 (by decide))
            have tM157_131_16 : M157 131 16 = M149 131 16 := f156 131 16 (fun q => absurd q.1 (by decide))
            have tM157_133_6 : M157 133 6 = M149 133 6 := f156 133 6 (fun q => by have := q.2; omega)
            have tM157_133_1 : M157 133 1 = M149 133 1 := f156 133 1 (fun q => by have := q.2; omega)
            have tM157_133_2 : M157 133 2 = M149 133 2 := f156 133 2 (fun q => by have := q.2; omega)
            have tM157_133_4 : M157 133 4 = M149 133 4 := f156 133 4 (fun q => by have := q.2; omega)
            have hq9 := wl_wr f156 (by omega)
            have hL := hq9.2 hL
            have cM157 := hq9.1
            clear hq9
            have hF := hF.wr f156 (by decide) (by decide)
            have hW : WFk M157 := hW.site f156 (by decide)
            refine z_aload_n F dX12_readEvent_115 rfl (q := 5) rfl ?_
            refine rf_X12_13 F gs_131 rfl dX12_readEvent_116 ?_
            refine z_iload F dX12_readEvent_119 (q := 0) rfl ?_
            refine z_iconst F dX12_readEvent_121 ?_
            refine z_iadd F dX12_readEvent_122 ?_
            refine z_iload_n F dX12_readEvent_123 rfl (q := 3) rfl ?_
            refine z_iast F hI gs_133 (by omega) (by omega) (by decide) (bd_133.trans (kn_ev1 (by omega) (by omega) (by omega))) dX12_readEvent_124 (by omega) (by omega) (fun M159 hI sf158 f158 => ?_)
            have tM159_131_7 : M159 131 7 = M157 131 7 := f158 131 7 (fun q => absurd q.1 (by decide))
            have tM159_131_8 : M159 131 8 = M157 131 8 := f158 131 8 (fun q => absurd q.1 (by decide))
            have tM159_131_9 : M159 131 9 = M157 131 9 := f158 131 9 (fun q => absurd q.1 (by decide))
            have tM159_131_10 : M159 131 10 = M157 131 10 := f158 131 10 (fun q => absurd q.1 (by decide))
            have tM159_131_12 : M159 131 12 = M157 131 12 := f158 131 12 (fun q => absurd q.1 (by decide))
            have tM159_131_16 : M159 131 16 = M157 131 16 := f158 131 16 (fun q => absurd q.1 (by decide))
            have tM159_133_6 : M159 133 6 = M157 133 6 := f158 133 6 (fun q => by have := q.2; omega)
            have tM159_133_1 : M159 133 1 = M157 133 1 := f158 133 1 (fun q => by have := q.2; omega)
            have tM159_133_2 : M159 133 2 = M157 133 2 := f158 133 2 (fun q => by have := q.2; omega)
            have tM159_133_4 : M159 133 4 = M157 133 4 := f158 133 4 (fun q => by have := q.2; omega)
            have hq9 := wl_wr f158 (by omega)
            have hL := hq9.2 hL
            have cM159 := hq9.1
            clear hq9
            have hF := hF.wr f158 (by decide) (by decide)
            have hW : WFk M159 := hW.site f158 (by decide)
            refine z_aload_n F dX12_readEvent_125 rfl (q := 5) rfl ?_
            refine rf_X12_13 F gs_131 rfl dX12_readEvent_126 ?_
            refine z_iload F dX12_readEvent_129 (q := 0) rfl ?_
            refine z_iconst F dX12_readEvent_131 ?_
            refine z_iadd F dX12_readEvent_132 ?_
            refine z_iload_n F dX12_readEvent_133 rfl (q := 2) rfl ?_
            refine z_if_eq (tgt := 143) F dX12_readEvent_134 (by decide +kernel) (by omega) (fun c160 => ?_) (fun c160 => by exfalso; omega)
            refine z_iload F dX12_readEvent_143 (q := 1) rfl ?_
            refine z_iast F hI gs_133 (by omega) (by omega) (by decide) (bd_133.trans (kn_ev2 (by omega) (by omega) (by omega))) dX12_readEvent_145 (by omega) (by omega) (fun M162 hI sf161 f161 => ?_)
            have tM162_131_7 : M162 131 7 = M159 131 7 := f161 131 7 (fun q => absurd q.1 (by decide))
            have tM162_131_8 : M162 131 8 = M159 131 8 := f161 131 8 (fun q => absurd q.1 (by decide))
            have tM162_131_9 : M162 131 9 = M159 131 9 := f161 131 9 (fun q => absurd q.1 (by decide))
            have tM162_131_10 : M162 131 10 = M159 131 10 := f161 131 10 (fun q => absurd q.1 (by decide))
            have tM162_131_12 : M162 131 12 = M159 131 12 := f161 131 12 (fun q => absurd q.1 (by decide))
            have tM162_131_16 : M162 131 16 = M159 131 16 := f161 131 16 (fun q => absurd q.1 (by decide))
            have tM162_133_6 : M162 133 6 = M159 133 6 := f161 133 6 (fun q => by have := q.2; omega)
            have tM162_133_1 : M162 133 1 = M159 133 1 := f161 133 1 (fun q => by have := q.2; omega)
            have tM162_133_2 : M162 133 2 = M159 133 2 := f161 133 2 (fun q => by have := q.2; omega)
            have tM162_133_4 : M162 133 4 = M159 133 4 := f161 133 4 (fun q => by have := q.2; omega)
            have hq9 := wl_wr f161 (by omega)
            have hL := hq9.2 hL
            have cM162 := hq9.1
            clear hq9
            have hF := hF.wr f161 (by decide) (by decide)
            have hW : WFk M162 := hW.site f161 (by decide)
            refine z_aload_n F dX12_readEvent_146 rfl (q := 5) rfl ?_
            refine rf_X12_13 F gs_131 rfl dX12_readEvent_147 ?_
            refine z_iconst F dX12_readEvent_150 ?_
            refine z_dup2 F dX12_readEvent_151 rfl rfl ?_
            refine z_iald F hI gs_133 (by omega) (by omega) (by decide) (show Bd 133 4 = (0, 6) from rfl) dX12_readEvent_152 (fun v163 (ev163 : v163 = M162 133 4) av163 bv163 => ?_)
            have q164 : v153 = M157 133 4 := ev153.trans (f156 133 4 (fun q => by omega)).symm
            have q165 : v153 = M159 133 4 := q164.trans (f158 133 4 (fun q => by omega)).symm
            have q166 : v153 = M162 133 4 := q165.trans (f161 133 4 (fun q => by omega)).symm
            have zv163 : v153 = v163 := q166.trans ev163.symm
            subst zv163
            refine z_iconst F dX12_readEvent_153 ?_
            refine z_iadd F dX12_readEvent_154 ?_
            refine z_nm (fun v168 ev168 => ?_)
            refine z_iast F hI gs_133 (by omega) (by omega) (by decide) (show Bd 133 4 = (0, 6) from rfl) dX12_readEvent_155 (by omega) (by omega) (fun M169 hI sf167 f167 => ?_)
            have tM169_131_7 : M169 131 7 = M162 131 7 := f167 131 7 (fun q => absurd q.1 (by decide))
            have tM169_131_8 : M169 131 8 = M162 131 8 := f167 131 8 (fun q => absurd q.1 (by decide))
            have tM169_131_9 : M169 131 9 = M162 131 9 := f167 131 9 (fun q => absurd q.1 (by decide))
            have tM169_131_10 : M169 131 10 = M162 131 10 := f167 131 10 (fun q => absurd q.1 (by decide))
            have tM169_131_12 : M169 131 12 = M162 131 12 := f167 131 12 (fun q => absurd q.1 (by decide))
            have tM169_131_16 : M169 131 16 = M162 131 16 := f167 131 16 (fun q => absurd q.1 (by decide))
            have tM169_133_6 : M169 133 6 = M162 133 6 := f167 133 6 (fun q => absurd q.2 (by decide))
            have tM169_133_1 : M169 133 1 = M162 133 1 := f167 133 1 (fun q => absurd q.2 (by decide))
            have tM169_133_2 : M169 133 2 = M162 133 2 := f167 133 2 (fun q => absurd q.2 (by decide))
            have hq9 := wl_wr f167 (by omega)
            have hL := hq9.2 hL
            have cM169 := hq9.1
            clear hq9
            have hF := hF.wr f167 (by decide) (by decide)
            have hW : WFk M169 := hW.site f167 (by decide)
            have sf167 : M169 133 4 = v168 := sf167
            exact hret _ 156 _ ⟨hI, hW⟩ ⟨hF, ⟨hL, by omega⟩⟩ dX12_readEvent_156
          · exact hret _ 92 _ ⟨hI, hW⟩ ⟨hF, ⟨hL, by omega⟩⟩ dX12_readEvent_92
  · exact hret _ 10 _ ⟨hI, hW⟩ ⟨hF, ⟨hL, by omega⟩⟩ dX12_readEvent_10
set_option maxRecDepth 4000 in
theorem kp_X12_isWord_131_1069 (l : Launch) (M : Mem) (hJ : Iw M) (hp0 : M 131 9 ≤ M 131 8 ∧ M 131 8 ≤ M 131 7 ∧ (M 131 10 = 0 ∨ M 131 9 < M 131 8)) : CI l yX12_isWord cX12_isWord 4 (some .boolean) 5 (fun ad => [.ref (ad 131), .ref (ad 1069)]) M (fun z M' => (0 ≤ z ∧ z ≤ 1) ∧ M = M' ∧ (z = 1 → M 131 12 = 0 ∧ M 131 10 = 1)) := by
  obtain ⟨hI, hW⟩ := hJ
  refine en_z (by decide +kernel) (fun ad => by exact Nat.le_of_ble_eq_true rfl) (fun D cy ad A p e s m args below meth c Q F hret => ?_)
  refine z_eq (ls' := [(0, .ref (ad 131)), (1, .ref (ad 1069))]) rfl rfl rfl ?_
  obtain ⟨u1, eu1⟩ : ∃ v : Int, v = M 131 7 := ⟨_, rfl⟩
  have ku1 : 0 ≤ u1 ∧ u1 ≤ 900 := by have := hI.at (show Bd 131 7 = (0, 900) from rfl); omega
  obtain ⟨u2, eu2⟩ : ∃ v : Int, v = M 131 8 := ⟨_, rfl⟩
  have ku2 : 0 ≤ u2 ∧ u2 ≤ 900 := by have := hI.at (show Bd 131 8 = (0, 900) from rfl); omega
  obtain ⟨u3, eu3⟩ : ∃ v : Int, v = M 131 9 := ⟨_, rfl⟩
  have ku3 : 0 ≤ u3 ∧ u3 ≤ 900 := by have := hI.at (show Bd 131 9 = (0, 900) from rfl); omega
  obtain ⟨u4, eu4⟩ : ∃ v : Int, v = M 131 10 := ⟨_, rfl⟩
  have ku4 : (-2147483648) ≤ u4 ∧ u4 ≤ 2147483647 := by have := hI.at (show Bd 131 10 = (-2147483648, 2147483647) from rfl); omega
  obtain ⟨u5, eu5⟩ : ∃ v : Int, v = M 131 12 := ⟨_, rfl⟩
  have ku5 : 0 ≤ u5 ∧ u5 ≤ 4 := by have := hI.at (show Bd 131 12 = (0, 4) from rfl); omega
  obtain ⟨u6, eu6⟩ : ∃ v : Int, v = M 131 16 := ⟨_, rfl⟩
  have ku6 : (-2147483648) ≤ u6 ∧ u6 ≤ 2147483647 := by have := hI.at (show Bd 131 16 = (-2147483648, 2147483647) from rfl); omega
  refine z_aload_n F dX12_isWord_0 rfl (q := 0) rfl ?_
  refine gf_X12_108 F hI gs_131 rfl bd_131_12 dX12_isWord_1 (fun v7 ev7 av7 bv7 => ?_)
  have zv7 : u5 = v7 := eu5.trans ev7.symm
  subst zv7
  refine z_if_ne (tgt := 35) F dX12_isWord_4 (by decide +kernel) (by omega) (fun c8 => ?_) (fun c8 => ?_)
  · refine z_iconst F dX12_isWord_35 ?_
    refine z_istore_n F dX12_isWord_36 rfl (by decide) (ls' := [(2, ii 0), (0, .ref (ad 131)), (1, .ref (ad 1069))]) rfl ?_
    refine z_iconst F dX12_isWord_37 ?_
    refine z_istore_n F dX12_isWord_38 rfl (by decide) (ls' := [(3, ii 0), (2, ii 0), (0, .ref (ad 131)), (1, .ref (ad 1069))]) rfl ?_
    refine z_loc [2, 3, 1, 0] (ls' := [(0, .ref (ad 131)), (1, .ref (ad 1069)), (2, ii 0), (3, ii 0)]) rfl ?_
    suffices key39 : ∀ (n : Nat) (y10 : Int) (y11 : Int), 0 ≤ y10 → y10 ≤ 0 → 0 ≤ y11 → y11 ≤ 0 → (y10 = 1 → M 131 12 = 0 ∧ M 131 10 = 1 ∧ M 131 8 - M 131 9 = 4) → 0 < (n : Int) → Z D cy ad p l e (RMh 5) s m args below meth c A 4 0 0 Q 39 [(0, .ref (ad 131)), (1, .ref (ad 1069)), (2, ii y10), (3, ii y11)] [] M from key39 1 0 0 (by omega) (by omega) (by omega) (by omega) (by omega) (by omega)
    intro n39
    induction n39 with
    | zero => intro y10 y11 ay10 by10 ay11 by11 i39_0 hn39; exfalso; omega
    | succ n39 ih39 =>
      intro y10 y11 ay10 by10 ay11 by11 i39_0 hn39
      refine z_iload_n F dX12_isWord_39 rfl (q := 2) rfl ?_
      refine z_if_eq (tgt := 82) F dX12_isWord_40 (by decide +kernel) (by omega) (fun c12 => ?_) (fun c12 => by exfalso; omega)
      refine z_iload_n F dX12_isWord_82 rfl (q := 2) rfl ?_
      exact hret _ _ 83 _ ⟨by omega, by omega⟩ ⟨hI, hW⟩ ⟨⟨by omega, by omega⟩, rfl, (by omega)⟩ dX12_isWord_83
  · refine z_aload_n F dX12_isWord_7 rfl (q := 0) rfl ?_
    refine gf_X12_88 F hI gs_131 rfl bd_131_10 dX12_isWord_8 (fun v13 ev13 av13 bv13 => ?_)
    have zv13 : u4 = v13 := eu4.trans ev13.symm
    subst zv13
    refine z_iconst F dX12_isWord_11 ?_
    refine z_icmp_ne (tgt := 35) F dX12_isWord_12 (by decide +kernel) (by omega) (by omega) (fun c14 => ?_) (fun c14 => ?_)
    · refine z_iconst F dX12_isWord_35 ?_
      refine z_istore_n F dX12_isWord_36 rfl (by decide) (ls' := [(2, ii 0), (0, .ref (ad 131)), (1, .ref (ad 1069))]) rfl ?_
      refine z_iconst F dX12_isWord_37 ?_
      refine z_istore_n F dX12_isWord_38 rfl (by decide) (ls' := [(3, ii 0), (2, ii 0), (0, .ref (ad 131)), (1, .ref (ad 1069))]) rfl ?_
      refine z_loc [2, 3, 1, 0] (ls' := [(0, .ref (ad 131)), (1, .ref (ad 1069)), (2, ii 0), (3, ii 0)]) rfl ?_
      suffices key39 : ∀ (n : Nat) (y16 : Int) (y17 : Int), 0 ≤ y16 → y16 ≤ 0 → 0 ≤ y17 → y17 ≤ 0 → (y16 = 1 → M 131 12 = 0 ∧ M 131 10 = 1 ∧ M 131 8 - M 131 9 = 4) → 0 < (n : Int) → Z D cy ad p l e (RMh 5) s m args below meth c A 4 0 0 Q 39 [(0, .ref (ad 131)), (1, .ref (ad 1069)), (2, ii y16), (3, ii y17)] [] M from key39 1 0 0 (by omega) (by omega) (by omega) (by omega) (by omega) (by omega)
      intro n39
      induction n39 with
      | zero => intro y16 y17 ay16 by16 ay17 by17 i39_0 hn39; exfalso; omega
      | succ n39 ih39 =>
        intro y16 y17 ay16 by16 ay17 by17 i39_0 hn39
        refine z_iload_n F dX12_isWord_39 rfl (q := 2) rfl ?_
        refine z_if_eq (tgt := 82) F dX12_isWord_40 (by decide +kernel) (by omega) (fun c18 => ?_) (fun c18 => by exfalso; omega)
        refine z_iload_n F dX12_isWord_82 rfl (q := 2) rfl ?_
        exact hret _ _ 83 _ ⟨by omega, by omega⟩ ⟨hI, hW⟩ ⟨⟨by omega, by omega⟩, rfl, (by omega)⟩ dX12_isWord_83
    · refine z_aload_n F dX12_isWord_15 rfl (q := 0) rfl ?_
      refine gf_X12_82 F hI gs_131 rfl bd_131_8 dX12_isWord_16 (fun v19 ev19 av19 bv19 => ?_)
      have zv19 : u2 = v19 := eu2.trans ev19.symm
      subst zv19
      refine z_aload_n F dX12_isWord_19 rfl (q := 0) rfl ?_
      refine gf_X12_85 F hI gs_131 rfl bd_131_9 dX12_isWord_20 (fun v20 ev20 av20 bv20 => ?_)
      have zv20 : u3 = v20 := eu3.trans ev20.symm
      subst zv20
      refine z_isub F dX12_isWord_23 ?_
      refine z_aload_n F dX12_isWord_24 rfl (q := 1) rfl ?_
      refine zvs_i (i := 69) (rest := [ii (u2 - u3)]) F (kS_len l M ⟨hI, hW⟩ 69 (by decide)) cs_X12_114 (by decide) (by decide) (by decide) rfl rfl rfl (Nat.le_of_ble_eq_true rfl) dX12_isWord_25 (fun v21 M9 rv21 hI9 pv21 => ?_)
      obtain ⟨ev21, rfl⟩ := pv21
      obtain rfl : v21 = 4 := ev21.trans (show ((sbyt.getD 69 []).length : Int) = 4 from by decide)
      clear hI9
      refine z_icmp_ne (tgt := 35) F dX12_isWord_28 (by decide +kernel) (by omega) (by omega) (fun c22 => ?_) (fun c22 => ?_)
      · refine z_iconst F dX12_isWord_35 ?_
        refine z_istore_n F dX12_isWord_36 rfl (by decide) (ls' := [(2, ii 0), (0, .ref (ad 131)), (1, .ref (ad 1069))]) rfl ?_
        refine z_iconst F dX12_isWord_37 ?_
        refine z_istore_n F dX12_isWord_38 rfl (by decide) (ls' := [(3, ii 0), (2, ii 0), (0, .ref (ad 131)), (1, .ref (ad 1069))]) rfl ?_
        refine z_loc [2, 3, 1, 0] (ls' := [(0, .ref (ad 131)), (1, .ref (ad 1069)), (2, ii 0), (3, ii 0)]) rfl ?_
        suffices key39 : ∀ (n : Nat) (y24 : Int) (y25 : Int), 0 ≤ y24 → y24 ≤ 0 → 0 ≤ y25 → y25 ≤ 0 → (y24 = 1 → M 131 12 = 0 ∧ M 131 10 = 1 ∧ M 131 8 - M 131 9 = 4) → 0 < (n : Int) → Z D cy ad p l e (RMh 5) s m args below meth c A 4 0 0 Q 39 [(0, .ref (ad 131)), (1, .ref (ad 1069)), (2, ii y24), (3, ii y25)] [] M from key39 1 0 0 (by omega) (by omega) (by omega) (by omega) (by omega) (by omega)
        intro n39
        induction n39 with
        | zero => intro y24 y25 ay24 by24 ay25 by25 i39_0 hn39; exfalso; omega
        | succ n39 ih39 =>
          intro y24 y25 ay24 by24 ay25 by25 i39_0 hn39
          refine z_iload_n F dX12_isWord_39 rfl (q := 2) rfl ?_
          refine z_if_eq (tgt := 82) F dX12_isWord_40 (by decide +kernel) (by omega) (fun c26 => ?_) (fun c26 => by exfalso; omega)
          refine z_iload_n F dX12_isWord_82 rfl (q := 2) rfl ?_
          exact hret _ _ 83 _ ⟨by omega, by omega⟩ ⟨hI, hW⟩ ⟨⟨by omega, by omega⟩, rfl, (by omega)⟩ dX12_isWord_83
      · refine z_iconst F dX12_isWord_31 ?_
        refine z_goto (tgt := 36) F dX12_isWord_32 (by decide +kernel) ?_
        refine z_istore_n F dX12_isWord_36 rfl (by decide) (ls' := [(2, ii 1), (0, .ref (ad 131)), (1, .ref (ad 1069))]) rfl ?_
        refine z_iconst F dX12_isWord_37 ?_
        refine z_istore_n F dX12_isWord_38 rfl (by decide) (ls' := [(3, ii 0), (2, ii 1), (0, .ref (ad 131)), (1, .ref (ad 1069))]) rfl ?_
        refine z_loc [2, 3, 1, 0] (ls' := [(0, .ref (ad 131)), (1, .ref (ad 1069)), (2, ii 1), (3, ii 0)]) rfl ?_
        suffices key39 : ∀ (n : Nat) (y28 : Int) (y29 : Int), 0 ≤ y28 → y28 ≤ 1 → 0 ≤ y29 → y29 ≤ 4 → (y28 = 1 → M 131 12 = 0 ∧ M 131 10 = 1 ∧ M 131 8 - M 131 9 = 4) → 4 - y29 < (n : Int) → Z D cy ad p l e (RMh 5) s m args below meth c A 4 0 0 Q 39 [(0, .ref (ad 131)), (1, .ref (ad 1069)), (2, ii y28), (3, ii y29)] [] M from key39 5 1 0 (by omega) (by omega) (by omega) (by omega) (by omega) (by omega)
        intro n39
        induction n39 with
        | zero => intro y28 y29 ay28 by28 ay29 by29 i39_0 hn39; exfalso; omega
        | succ n39 ih39 =>
          intro y28 y29 ay28 by28 ay29 by29 i39_0 hn39
          refine z_iload_n F dX12_isWord_39 rfl (q := 2) rfl ?_
          refine z_if_eq (tgt := 82) F dX12_isWord_40 (by decide +kernel) (by omega) (fun c30 => ?_) (fun c30 => ?_)
          · refine z_iload_n F dX12_isWord_82 rfl (q := 2) rfl ?_
            exact hret _ _ 83 _ ⟨by omega, by omega⟩ ⟨hI, hW⟩ ⟨⟨by omega, by omega⟩, rfl, (by omega)⟩ dX12_isWord_83
          · refine z_iload_n F dX12_isWord_43 rfl (q := 3) rfl ?_
            refine z_aload_n F dX12_isWord_44 rfl (q := 1) rfl ?_
            refine zvs_i (i := 69) (rest := [ii y29]) F (kS_len l M ⟨hI, hW⟩ 69 (by decide)) cs_X12_114 (by decide) (by decide) (by decide) rfl rfl rfl (Nat.le_of_ble_eq_true rfl) dX12_isWord_45 (fun v31 M9 rv31 hI9 pv31 => ?_)
            obtain ⟨ev31, rfl⟩ := pv31
            obtain rfl : v31 = 4 := ev31.trans (show ((sbyt.getD 69 []).length : Int) = 4 from by decide)
            clear hI9
            refine z_icmp_ge (tgt := 82) F dX12_isWord_48 (by decide +kernel) (by omega) (by omega) (fun c32 => ?_) (fun c32 => ?_)
            · refine z_iload_n F dX12_isWord_82 rfl (q := 2) rfl ?_
              exact hret _ _ 83 _ ⟨by omega, by omega⟩ ⟨hI, hW⟩ ⟨⟨by omega, by omega⟩, rfl, (by omega)⟩ dX12_isWord_83
            · refine z_aload_n F dX12_isWord_51 rfl (q := 0) rfl ?_
              refine rf_X12_23 F gs_131 rfl dX12_isWord_52 ?_
              refine z_aload_n F dX12_isWord_55 rfl (q := 0) rfl ?_
              refine gf_X12_85 F hI gs_131 rfl bd_131_9 dX12_isWord_56 (fun v33 ev33 av33 bv33 => ?_)
              have zv33 : u3 = v33 := eu3.trans ev33.symm
              subst zv33
              refine z_iload_n F dX12_isWord_59 rfl (q := 3) rfl ?_
              refine z_iadd F dX12_isWord_60 ?_
              have k34 : 0 ≤ (u3 + y29) ∧ (u3 + y29) ≤ 899 := by omega
              refine z_iald F hI gs_136 (by omega) (by omega) (by decide) bd_136 dX12_isWord_61 (fun v35 (ev35 : v35 = M 136 _) av35 bv35 => ?_)
              refine z_aload_n F dX12_isWord_62 rfl (q := 1) rfl ?_
              refine z_iload_n F dX12_isWord_63 rfl (q := 3) rfl ?_
              refine zvs_i (i := 69) (rest := [ii v35]) F (kS_chr l M ⟨hI, hW⟩ 69 (by decide) y29 (by omega) (show y29 < ((sbyt.getD 69 []).length : Int) from by rw [show ((sbyt.getD 69 []).length : Int) = 4 from by decide]; omega)) cs_X12_119 (by decide) (by decide) (by decide) rfl rfl rfl (Nat.le_of_ble_eq_true rfl) dX12_isWord_64 (fun v36 M9 rv36 hI9 pv36 => ?_)
              obtain ⟨⟨av36, bv36⟩, rfl⟩ := pv36
              clear hI9
              refine z_icmp_ne (tgt := 74) F dX12_isWord_67 (by decide +kernel) (by omega) (by omega) (fun c37 => ?_) (fun c37 => ?_)
              · refine z_iconst F dX12_isWord_74 ?_
                refine z_istore_n F dX12_isWord_75 rfl (by decide) (ls' := [(2, ii 0), (0, .ref (ad 131)), (1, .ref (ad 1069)), (3, ii y29)]) rfl ?_
                refine z_iincN F dX12_isWord_76 (q := 3) rfl (by decide) (fun v38 ev38 => ?_)
                refine z_eq (ls' := [(3, ii v38), (2, ii 0), (0, .ref (ad 131)), (1, .ref (ad 1069))]) rfl rfl rfl ?_
                refine z_goto (tgt := 39) F dX12_isWord_79 (by decide +kernel) ?_
                refine z_loc [2, 3, 1, 0] (ls' := [(0, .ref (ad 131)), (1, .ref (ad 1069)), (2, ii 0), (3, ii v38)]) rfl ?_
                exact ih39 0 v38 (by omega) (by omega) (by omega) (by omega) (by omega) (by omega)
              · refine z_iconst F dX12_isWord_70 ?_
                refine z_goto (tgt := 75) F dX12_isWord_71 (by decide +kernel) ?_
                refine z_istore_n F dX12_isWord_75 rfl (by decide) (ls' := [(2, ii 1), (0, .ref (ad 131)), (1, .ref (ad 1069)), (3, ii y29)]) rfl ?_
                refine z_iincN F dX12_isWord_76 (q := 3) rfl (by decide) (fun v39 ev39 => ?_)
                refine z_eq (ls' := [(3, ii v39), (2, ii 1), (0, .ref (ad 131)), (1, .ref (ad 1069))]) rfl rfl rfl ?_
                refine z_goto (tgt := 39) F dX12_isWord_79 (by decide +kernel) ?_
                refine z_loc [2, 3, 1, 0] (ls' := [(0, .ref (ad 131)), (1, .ref (ad 1069)), (2, ii 1), (3, ii v39)]) rfl ?_
                exact ih39 1 v39 (by omega) (by omega) (by omega) (by omega) (by omega) (by omega)
set_option maxRecDepth 4000 in
theorem kp_X12_took_131_1069 (l : Launch) (M : Mem) (hJ : Iw M) (hp0 : M 131 9 ≤ M 131 8 ∧ M 131 8 ≤ M 131 7 ∧ (M 131 10 = 0 ∨ M 131 9 < M 131 8)) : CI l yX12_took cX12_took 3 (some .boolean) 6 (fun ad => [.ref (ad 131), .ref (ad 1069)]) M (fun z M' => (0 ≤ z ∧ z ≤ 1) ∧ Fr [131] M M' ∧ (M' 131 7 = M 131 7 ∧ M' 131 16 = M 131 16 ∧ M 131 9 ≤ M' 131 9 ∧ M' 131 9 ≤ M' 131 8 ∧ M' 131 8 ≤ M' 131 7 ∧ (M' 131 10 = 0 ∨ M' 131 9 < M' 131 8) ∧ M' 131 12 = M 131 12 ∧ (z = 1 → M 131 12 = 0 ∧ M 131 9 < M' 131 9))) := by
  obtain ⟨hI, hW⟩ := hJ
  have hF : Fr [131] M M := Fr.rf
  refine en_z (by decide +kernel) (fun ad => by exact Nat.le_of_ble_eq_true rfl) (fun D cy ad A p e s m args below meth c Q F hret => ?_)
  refine z_eq (ls' := [(0, .ref (ad 131)), (1, .ref (ad 1069))]) rfl rfl rfl ?_
  refine z_aload_n F dX12_took_0 rfl (q := 0) rfl ?_
  refine z_aload_n F dX12_took_1 rfl (q := 1) rfl ?_
  refine zv_i (rest := []) F (kp_X12_isWord_131_1069 l M ⟨hI, hW⟩ (by omega)) cs_X12_123 (T := TX12) (N := 44) (ci := 12) rfl gs_131 (by decide) (by decide) rfl rfl rfl (Nat.le_of_ble_eq_true rfl) dX12_took_2 (fun v1 M2 rv1 hI p3 => ?_)
  obtain ⟨hI, hW⟩ := hI
  obtain ⟨⟨av1, bv1⟩, rfl, xp3⟩ := p3
  refine z_istore_n F dX12_took_5 rfl (by decide) (ls' := [(2, ii v1), (0, .ref (ad 131)), (1, .ref (ad 1069))]) rfl ?_
  refine z_iload_n F dX12_took_6 rfl (q := 0) rfl ?_
  refine z_if_eq (tgt := 14) F dX12_took_7 (by decide +kernel) (by omega) (fun c4 => ?_) (fun c4 => ?_)
  · refine z_iload_n F dX12_took_14 rfl (q := 0) rfl ?_
    exact hret _ _ 15 _ ⟨by omega, by omega⟩ ⟨hI, hW⟩ ⟨⟨by omega, by omega⟩, hF, (by omega)⟩ dX12_took_15
  · refine z_aload_n F dX12_took_10 rfl (q := 1) rfl ?_
    refine zv_v (rest := []) F (kp_X12_readsOn l M ⟨hI, hW⟩ (by omega)) cs_X12_127 (T := TX12) (N := 44) (ci := 12) rfl gs_131 (by decide) (by decide) rfl rfl rfl (Nat.le_of_ble_eq_true rfl) dX12_took_11 (fun M5 hI p6 => ?_)
    obtain ⟨hI, hW⟩ := hI
    obtain ⟨fp6, xp6⟩ := p6
    have hF := hF.call fp6 (by decide)
    have tM5_133_6 : M5 133 6 = M 133 6 := fp6.at (by decide)
    have tM5_133_1 : M5 133 1 = M 133 1 := fp6.at (by decide)
    refine z_iload_n F dX12_took_14 rfl (q := 0) rfl ?_
    exact hret _ _ 15 _ ⟨by omega, by omega⟩ ⟨hI, hW⟩ ⟨⟨by omega, by omega⟩, hF, (by omega)⟩ dX12_took_15
