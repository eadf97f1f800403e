theorem dX12_lawWord_0 : decode cX12_lawWord 0 = .ok (.aload_n 0, 1) := by decide +kernel
theorem dX12_lawWord_1 : decode cX12_lawWord 1 = .ok (.ldc 180, 2) := by decide +kernel
theorem dX12_lawWord_10 : decode cX12_lawWord 10 = .ok (.ireturn, 1) := by decide +kernel
theorem dX12_lawWord_11 : decode cX12_lawWord 11 = .ok (.aload_n 0, 1) := by decide +kernel
theorem dX12_lawWord_12 : decode cX12_lawWord 12 = .ok (.ldc 182, 2) := by decide +kernel
theorem dX12_lawWord_14 : decode cX12_lawWord 14 = .ok (.invokevirtual 130, 3) := by decide +kernel
theorem dX12_lawWord_17 : decode cX12_lawWord 17 = .ok (.ifCond .eq 5, 3) := by decide +kernel
theorem dX12_lawWord_20 : decode cX12_lawWord 20 = .ok (.iconst 1, 1) := by decide +kernel
theorem dX12_lawWord_21 : decode cX12_lawWord 21 = .ok (.ireturn, 1) := by decide +kernel
theorem dX12_lawWord_22 : decode cX12_lawWord 22 = .ok (.aload_n 0, 1) := by decide +kernel
theorem dX12_lawWord_23 : decode cX12_lawWord 23 = .ok (.ldc 184, 2) := by decide +kernel
theorem dX12_lawWord_25 : decode cX12_lawWord 25 = .ok (.invokevirtual 130, 3) := by decide +kernel
theorem dX12_lawWord_28 : decode cX12_lawWord 28 = .ok (.ifCond .eq 5, 3) := by decide +kernel
theorem dX12_lawWord_3 : decode cX12_lawWord 3 = .ok (.invokevirtual 130, 3) := by decide +kernel
theorem dX12_lawWord_31 : decode cX12_lawWord 31 = .ok (.iconst 2, 1) := by decide +kernel
theorem dX12_lawWord_32 : decode cX12_lawWord 32 = .ok (.ireturn, 1) := by decide +kernel
theorem dX12_lawWord_33 : decode cX12_lawWord 33 = .ok (.aload_n 0, 1) := by decide +kernel
theorem dX12_lawWord_34 : decode cX12_lawWord 34 = .ok (.ldc 186, 2) := by decide +kernel
theorem dX12_lawWord_36 : decode cX12_lawWord 36 = .ok (.invokevirtual 130, 3) := by decide +kernel
theorem dX12_lawWord_39 : decode cX12_lawWord 39 = .ok (.ifCond .eq 5, 3) := by decide +kernel
theorem dX12_lawWord_42 : decode cX12_lawWord 42 = .ok (.iconst 3, 1) := by decide +kernel
theorem dX12_lawWord_43 : decode cX12_lawWord 43 = .ok (.ireturn, 1) := by decide +kernel
theorem dX12_lawWord_44 : decode cX12_lawWord 44 = .ok (.aload_n 0, 1) := by decide +kernel
theorem dX12_lawWord_45 : decode cX12_lawWord 45 = .ok (.ldc 188, 2) := by decide +kernel
theorem dX12_lawWord_47 : decode cX12_lawWord 47 = .ok (.invokevirtual 130, 3) := by decide +kernel
theorem dX12_lawWord_50 : decode cX12_lawWord 50 = .ok (.ifCond .eq 5, 3) := by decide +kernel
theorem dX12_lawWord_53 : decode cX12_lawWord 53 = .ok (.iconst 4, 1) := by decide +kernel
theorem dX12_lawWord_54 : decode cX12_lawWord 54 = .ok (.ireturn, 1) := by decide +kernel
theorem dX12_lawWord_55 : decode cX12_lawWord 55 = .ok (.aload_n 0, 1) := by decide +kernel
theorem dX12_lawWord_56 : decode cX12_lawWord 56 = .ok (.ldc 190, 2) := by decide +kernel
theorem dX12_lawWord_58 : decode cX12_lawWord 58 = .ok (.invokevirtual 130, 3) := by decide +kernel
theorem dX12_lawWord_6 : decode cX12_lawWord 6 = .ok (.ifCond .eq 5, 3) := by decide +kernel
theorem dX12_lawWord_61 : decode cX12_lawWord 61 = .ok (.ifCond .eq 5, 3) := by decide +kernel
theorem dX12_lawWord_64 : decode cX12_lawWord 64 = .ok (.iconst 5, 1) := by decide +kernel
theorem dX12_lawWord_65 : decode cX12_lawWord 65 = .ok (.ireturn, 1) := by decide +kernel
theorem dX12_lawWord_66 : decode cX12_lawWord 66 = .ok (.aload_n 0, 1) := by decide +kernel
theorem dX12_lawWord_67 : decode cX12_lawWord 67 = .ok (.ldc 192, 2) := by decide +kernel
theorem dX12_lawWord_69 : decode cX12_lawWord 69 = .ok (.invokevirtual 130, 3) := by decide +kernel
theorem dX12_lawWord_72 : decode cX12_lawWord 72 = .ok (.ifCond .eq 6, 3) := by decide +kernel
theorem dX12_lawWord_75 : decode cX12_lawWord 75 = .ok (.bipush 6, 2) := by decide +kernel
theorem dX12_lawWord_77 : decode cX12_lawWord 77 = .ok (.ireturn, 1) := by decide +kernel
theorem dX12_lawWord_78 : decode cX12_lawWord 78 = .ok (.aload_n 0, 1) := by decide +kernel
theorem dX12_lawWord_79 : decode cX12_lawWord 79 = .ok (.ldc 194, 2) := by decide +kernel
theorem dX12_lawWord_81 : decode cX12_lawWord 81 = .ok (.invokevirtual 130, 3) := by decide +kernel
theorem dX12_lawWord_84 : decode cX12_lawWord 84 = .ok (.ifCond .eq 8, 3) := by decide +kernel
theorem dX12_lawWord_87 : decode cX12_lawWord 87 = .ok (.bipush 7, 2) := by decide +kernel
theorem dX12_lawWord_89 : decode cX12_lawWord 89 = .ok (.goto 4, 3) := by decide +kernel
theorem dX12_lawWord_9 : decode cX12_lawWord 9 = .ok (.iconst 0, 1) := by decide +kernel
theorem dX12_lawWord_92 : decode cX12_lawWord 92 = .ok (.iconst (-1), 1) := by decide +kernel
theorem dX12_lawWord_93 : decode cX12_lawWord 93 = .ok (.ireturn, 1) := by decide +kernel
theorem dX12_mustSign_0 : decode cX12_mustSign 0 = .ok (.aload_n 0, 1) := by decide +kernel
theorem dX12_mustSign_1 : decode cX12_mustSign 1 = .ok (.getfield 88, 3) := by decide +kernel
theorem dX12_mustSign_10 : decode cX12_mustSign 10 = .ok (.invokevirtual 133, 3) := by decide +kernel
theorem dX12_mustSign_13 : decode cX12_mustSign 13 = .ok (.aload_n 0, 1) := by decide +kernel
theorem dX12_mustSign_14 : decode cX12_mustSign 14 = .ok (.getfield 108, 3) := by decide +kernel
theorem dX12_mustSign_17 : decode cX12_mustSign 17 = .ok (.ifCond .ne 7, 3) := by decide +kernel
theorem dX12_mustSign_20 : decode cX12_mustSign 20 = .ok (.aload_n 0, 1) := by decide +kernel
theorem dX12_mustSign_21 : decode cX12_mustSign 21 = .ok (.invokevirtual 127, 3) := by decide +kernel
theorem dX12_mustSign_24 : decode cX12_mustSign 24 = .ok (.return_, 1) := by decide +kernel
theorem dX12_mustSign_4 : decode cX12_mustSign 4 = .ok (.iload_n 1, 1) := by decide +kernel
theorem dX12_mustSign_5 : decode cX12_mustSign 5 = .ok (.if_icmp .eq 8, 3) := by decide +kernel
theorem dX12_mustSign_8 : decode cX12_mustSign 8 = .ok (.aload_n 0, 1) := by decide +kernel
theorem dX12_mustSign_9 : decode cX12_mustSign 9 = .ok (.iconst 2, 1) := by decide +kernel
theorem dX12_readTruth_0 : decode cX12_readTruth 0 = .ok (.aload_n 0, 1) := by decide +kernel
theorem dX12_readTruth_1 : decode cX12_readTruth 1 = .ok (.invokevirtual 144, 3) := by decide +kernel
theorem dX12_readTruth_10 : decode cX12_readTruth 10 = .ok (.ifCond .eq 16, 3) := by decide +kernel
theorem dX12_readTruth_13 : decode cX12_readTruth 13 = .ok (.aload_n 0, 1) := by decide +kernel
theorem dX12_readTruth_14 : decode cX12_readTruth 14 = .ok (.invokevirtual 144, 3) := by decide +kernel
theorem dX12_readTruth_17 : decode cX12_readTruth 17 = .ok (.aload_n 0, 1) := by decide +kernel
theorem dX12_readTruth_18 : decode cX12_readTruth 18 = .ok (.bipush 17, 2) := by decide +kernel
theorem dX12_readTruth_20 : decode cX12_readTruth 20 = .ok (.invokevirtual 149, 3) := by decide +kernel
theorem dX12_readTruth_23 : decode cX12_readTruth 23 = .ok (.goto (-19), 3) := by decide +kernel
theorem dX12_readTruth_26 : decode cX12_readTruth 26 = .ok (.return_, 1) := by decide +kernel
theorem dX12_readTruth_4 : decode cX12_readTruth 4 = .ok (.aload_n 0, 1) := by decide +kernel
theorem dX12_readTruth_5 : decode cX12_readTruth 5 = .ok (.ldc 147, 2) := by decide +kernel
theorem dX12_readTruth_7 : decode cX12_readTruth 7 = .ok (.invokevirtual 130, 3) := by decide +kernel
set_option maxHeartbeats 4000000 in
set_option maxRecDepth 4000 in
theorem kp_X12_isWord_131_1059 (l : Launch) (M : Mem) (hJ : Iw M) (hp0 : 0 ≤ M 131 9 ∧ M 131 9 ≤ M 131 8 ∧ M 131 8 ≤ M 131 7 ∧ M 131 7 ≤ 900 ∧ (M 131 10 = 0 ∨ M 131 9 < M 131 8)) : CI l yX12_isWord cX12_isWord 4 (some .boolean) 5 (fun ad => [.ref (ad 131), .ref (ad 1059)]) M (fun z M' => (0 ≤ z ∧ z ≤ 1) ∧ M = M' ∧ (z = 1 → M 131 12 = 0 ∧ M 131 10 = 1) ∧ (WZ z (isW w_wall (absR M)))) := by
  obtain ⟨hI, hW⟩ := hJ
  refine en_z (by decide +kernel) (fun ad => by exact Nat.le_of_ble_eq_true rfl) (fun D cy ad A p e s m args below meth c Q F hret => ?_)
  refine z_eq (ls' := [(0, .ref (ad 131)), (1, .ref (ad 1059))]) rfl rfl rfl ?_
  obtain ⟨u1, eu1⟩ : ∃ v : Int, v = M 131 7 := ⟨_, rfl⟩
  have ku1 : 0 ≤ u1 ∧ u1 ≤ 900 := by have := hI.at (show Bd 131 7 = (0, 900) from rfl); omega
  obtain ⟨u2, eu2⟩ : ∃ v : Int, v = M 131 8 := ⟨_, rfl⟩
  have ku2 : 0 ≤ u2 ∧ u2 ≤ 900 := by have := hI.at (show Bd 131 8 = (0, 900) from rfl); omega
  obtain ⟨u3, eu3⟩ : ∃ v : Int, v = M 131 9 := ⟨_, rfl⟩
  have ku3 : 0 ≤ u3 ∧ u3 ≤ 900 := by have := hI.at (show Bd 131 9 = (0, 900) from rfl); omega
  obtain ⟨u4, eu4⟩ : ∃ v : Int, v = M 131 10 := ⟨_, rfl⟩
  have ku4 : (-2147483648) ≤ u4 ∧ u4 ≤ 2147483647 := by have := hI.at (show Bd 131 10 = (-2147483648, 2147483647) from rfl); omega
  obtain ⟨u5, eu5⟩ : ∃ v : Int, v = M 131 12 := ⟨_, rfl⟩
  have ku5 : 0 ≤ u5 ∧ u5 ≤ 4 := by have := hI.at (show Bd 131 12 = (0, 4) from rfl); omega
  obtain ⟨u6, eu6⟩ : ∃ v : Int, v = M 131 16 := ⟨_, rfl⟩
  have ku6 : (-2147483648) ≤ u6 ∧ u6 ≤ 2147483647 := by have := hI.at (show Bd 131 16 = (-2147483648, 2147483647) from rfl); omega
  refine z_aload_n F dX12_isWord_0 rfl (q := 0) rfl ?_
  refine gf_X12_108 F hI gs_131 rfl bd_131_12 dX12_isWord_1 (fun v7 ev7 av7 bv7 => ?_)
  have zv7 : u5 = v7 := eu5.trans ev7.symm
  subst zv7
  refine z_if_ne (tgt := 35) F dX12_isWord_4 (by decide +kernel) (by omega) (fun c8 => ?_) (fun c8 => ?_)
  · refine z_iconst F dX12_isWord_35 ?_
    refine z_istore_n F dX12_isWord_36 rfl (by decide) (ls' := [(2, ii 0), (0, .ref (ad 131)), (1, .ref (ad 1059))]) rfl ?_
    refine z_iconst F dX12_isWord_37 ?_
    refine z_istore_n F dX12_isWord_38 rfl (by decide) (ls' := [(3, ii 0), (2, ii 0), (0, .ref (ad 131)), (1, .ref (ad 1059))]) rfl ?_
    refine z_loc [2, 3, 1, 0] (ls' := [(0, .ref (ad 131)), (1, .ref (ad 1059)), (2, ii 0), (3, ii 0)]) rfl ?_
    suffices key39 : ∀ (n : Nat) (y10 : Int) (y11 : Int), 0 ≤ y10 → y10 ≤ 0 → 0 ≤ y11 → y11 ≤ 0 → (y10 = 1 → M 131 12 = 0 ∧ M 131 10 = 1 ∧ M 131 8 - M 131 9 = 4) → (Iw_R M w_wall y10 y11) → 0 < (n : Int) → Z D cy ad p l e (RMh 5) s m args below meth c A 4 0 0 Q 39 [(0, .ref (ad 131)), (1, .ref (ad 1059)), (2, ii y10), (3, ii y11)] [] M from key39 1 0 0 (by omega) (by omega) (by omega) (by omega) (by omega) (iwR_n (by rw [wl_wall]; unfold tkR; omega)) (by omega)
    intro n39
    induction n39 with
    | zero => intro y10 y11 ay10 by10 ay11 by11 i39_0 i39_1 hn39; exfalso; omega
    | succ n39 ih39 =>
      intro y10 y11 ay10 by10 ay11 by11 i39_0 i39_1 hn39
      refine z_iload_n F dX12_isWord_39 rfl (q := 2) rfl ?_
      refine z_if_eq (tgt := 82) F dX12_isWord_40 (by decide +kernel) (by omega) (fun c12 => ?_) (fun c12 => by exfalso; omega)
      refine z_iload_n F dX12_isWord_82 rfl (q := 2) rfl ?_
      exact hret _ _ 83 _ ⟨by omega, by omega⟩ ⟨hI, hW⟩ ⟨⟨by omega, by omega⟩, rfl, (by omega), (iwR_e i39_1 (by rw [wl_wall]; unfold tkR; omega) (by omega) (by omega))⟩ dX12_isWord_83
  · refine z_aload_n F dX12_isWord_7 rfl (q := 0) rfl ?_
    refine gf_X12_88 F hI gs_131 rfl bd_131_10 dX12_isWord_8 (fun v13 ev13 av13 bv13 => ?_)
    have zv13 : u4 = v13 := eu4.trans ev13.symm
    subst zv13
    refine z_iconst F dX12_isWord_11 ?_
    refine z_icmp_ne (tgt := 35) F dX12_isWord_12 (by decide +kernel) (by omega) (by omega) (fun c14 => ?_) (fun c14 => ?_)
    · refine z_iconst F dX12_isWord_35 ?_
      refine z_istore_n F dX12_isWord_36 rfl (by decide) (ls' := [(2, ii 0), (0, .ref (ad 131)), (1, .ref (ad 1059))]) rfl ?_
      refine z_iconst F dX12_isWord_37 ?_
      refine z_istore_n F dX12_isWord_38 rfl (by decide) (ls' := [(3, ii 0), (2, ii 0), (0, .ref (ad 131)), (1, .ref (ad 1059))]) rfl ?_
      refine z_loc [2, 3, 1, 0] (ls' := [(0, .ref (ad 131)), (1, .ref (ad 1059)), (2, ii 0), (3, ii 0)]) rfl ?_
      suffices key39 : ∀ (n : Nat) (y16 : Int) (y17 : Int), 0 ≤ y16 → y16 ≤ 0 → 0 ≤ y17 → y17 ≤ 0 → (y16 = 1 → M 131 12 = 0 ∧ M 131 10 = 1 ∧ M 131 8 - M 131 9 = 4) → (Iw_R M w_wall y16 y17) → 0 < (n : Int) → Z D cy ad p l e (RMh 5) s m args below meth c A 4 0 0 Q 39 [(0, .ref (ad 131)), (1, .ref (ad 1059)), (2, ii y16), (3, ii y17)] [] M from key39 1 0 0 (by omega) (by omega) (by omega) (by omega) (by omega) (iwR_n (by rw [wl_wall]; unfold tkR; omega)) (by omega)
      intro n39
      induction n39 with
      | zero => intro y16 y17 ay16 by16 ay17 by17 i39_0 i39_1 hn39; exfalso; omega
      | succ n39 ih39 =>
        intro y16 y17 ay16 by16 ay17 by17 i39_0 i39_1 hn39
        refine z_iload_n F dX12_isWord_39 rfl (q := 2) rfl ?_
        refine z_if_eq (tgt := 82) F dX12_isWord_40 (by decide +kernel) (by omega) (fun c18 => ?_) (fun c18 => by exfalso; omega)
        refine z_iload_n F dX12_isWord_82 rfl (q := 2) rfl ?_
        exact hret _ _ 83 _ ⟨by omega, by omega⟩ ⟨hI, hW⟩ ⟨⟨by omega, by omega⟩, rfl, (by omega), (iwR_e i39_1 (by rw [wl_wall]; unfold tkR; omega) (by omega) (by omega))⟩ dX12_isWord_83
    · refine z_aload_n F dX12_isWord_15 rfl (q := 0) rfl ?_
      refine gf_X12_82 F hI gs_131 rfl bd_131_8 dX12_isWord_16 (fun v19 ev19 av19 bv19 => ?_)
      have zv19 : u2 = v19 := eu2.trans ev19.symm
      subst zv19
      refine z_aload_n F dX12_isWord_19 rfl (q := 0) rfl ?_
      refine gf_X12_85 F hI gs_131 rfl bd_131_9 dX12_isWord_20 (fun v20 ev20 av20 bv20 => ?_)
      have zv20 : u3 = v20 := eu3.trans ev20.symm
      subst zv20
      refine z_isub F dX12_isWord_23 ?_
      refine z_aload_n F dX12_isWord_24 rfl (q := 1) rfl ?_
      refine zvs_i (i := 59) (rest := [ii (u2 - u3)]) F (kS_len l M ⟨hI, hW⟩ 59 (by decide)) cs_X12_114 (by decide) (by decide) (by decide) rfl rfl rfl (Nat.le_of_ble_eq_true rfl) dX12_isWord_25 (fun v21 M9 rv21 hI9 pv21 => ?_)
      obtain ⟨ev21, rfl⟩ := pv21
      obtain rfl : v21 = 4 := ev21.trans (show ((sbyt.getD 59 []).length : Int) = 4 from by decide)
      clear hI9
      refine z_icmp_ne (tgt := 35) F dX12_isWord_28 (by decide +kernel) (by omega) (by omega) (fun c22 => ?_) (fun c22 => ?_)
      · refine z_iconst F dX12_isWord_35 ?_
        refine z_istore_n F dX12_isWord_36 rfl (by decide) (ls' := [(2, ii 0), (0, .ref (ad 131)), (1, .ref (ad 1059))]) rfl ?_
        refine z_iconst F dX12_isWord_37 ?_
        refine z_istore_n F dX12_isWord_38 rfl (by decide) (ls' := [(3, ii 0), (2, ii 0), (0, .ref (ad 131)), (1, .ref (ad 1059))]) rfl ?_
        refine z_loc [2, 3, 1, 0] (ls' := [(0, .ref (ad 131)), (1, .ref (ad 1059)), (2, ii 0), (3, ii 0)]) rfl ?_
        suffices key39 : ∀ (n : Nat) (y24 : Int) (y25 : Int), 0 ≤ y24 → y24 ≤ 0 → 0 ≤ y25 → y25 ≤ 0 → (y24 = 1 → M 131 12 = 0 ∧ M 131 10 = 1 ∧ M 131 8 - M 131 9 = 4) → (Iw_R M w_wall y24 y25) → 0 < (n : Int) → Z D cy ad p l e (RMh 5) s m args below meth c A 4 0 0 Q 39 [(0, .ref (ad 131)), (1, .ref (ad 1059)), (2, ii y24), (3, ii y25)] [] M from key39 1 0 0 (by omega) (by omega) (by omega) (by omega) (by omega) (iwR_n (by rw [wl_wall]; unfold tkR; omega)) (by omega)
        intro n39
        induction n39 with
        | zero => intro y24 y25 ay24 by24 ay25 by25 i39_0 i39_1 hn39; exfalso; omega
        | succ n39 ih39 =>
          intro y24 y25 ay24 by24 ay25 by25 i39_0 i39_1 hn39
          refine z_iload_n F dX12_isWord_39 rfl (q := 2) rfl ?_
          refine z_if_eq (tgt := 82) F dX12_isWord_40 (by decide +kernel) (by omega) (fun c26 => ?_) (fun c26 => by exfalso; omega)
          refine z_iload_n F dX12_isWord_82 rfl (q := 2) rfl ?_
          exact hret _ _ 83 _ ⟨by omega, by omega⟩ ⟨hI, hW⟩ ⟨⟨by omega, by omega⟩, rfl, (by omega), (iwR_e i39_1 (by rw [wl_wall]; unfold tkR; omega) (by omega) (by omega))⟩ dX12_isWord_83
      · refine z_iconst F dX12_isWord_31 ?_
        refine z_goto (tgt := 36) F dX12_isWord_32 (by decide +kernel) ?_
        refine z_istore_n F dX12_isWord_36 rfl (by decide) (ls' := [(2, ii 1), (0, .ref (ad 131)), (1, .ref (ad 1059))]) rfl ?_
        refine z_iconst F dX12_isWord_37 ?_
        refine z_istore_n F dX12_isWord_38 rfl (by decide) (ls' := [(3, ii 0), (2, ii 1), (0, .ref (ad 131)), (1, .ref (ad 1059))]) rfl ?_
        refine z_loc [2, 3, 1, 0] (ls' := [(0, .ref (ad 131)), (1, .ref (ad 1059)), (2, ii 1), (3, ii 0)]) rfl ?_
        suffices key39 : ∀ (n : Nat) (y28 : Int) (y29 : Int), 0 ≤ y28 → y28 ≤ 1 → 0 ≤ y29 → y29 ≤ 4 → (y28 = 1 → M 131 12 = 0 ∧ M 131 10 = 1 ∧ M 131 8 - M 131 9 = 4) → (Iw_R M w_wall y28 y29) → 4 - y29 < (n : Int) → Z D cy ad p l e (RMh 5) s m args below meth c A 4 0 0 Q 39 [(0, .ref (ad 131)), (1, .ref (ad 1059)), (2, ii y28), (3, ii y29)] [] M from key39 5 1 0 (by omega) (by omega) (by omega) (by omega) (by omega) iwR_0 (by omega)
        intro n39
        induction n39 with
        | zero => intro y28 y29 ay28 by28 ay29 by29 i39_0 i39_1 hn39; exfalso; omega
        | succ n39 ih39 =>
          intro y28 y29 ay28 by28 ay29 by29 i39_0 i39_1 hn39
          refine z_iload_n F dX12_isWord_39 rfl (q := 2) rfl ?_
          refine z_if_eq (tgt := 82) F dX12_isWord_40 (by decide +kernel) (by omega) (fun c30 => ?_) (fun c30 => ?_)
          · refine z_iload_n F dX12_isWord_82 rfl (q := 2) rfl ?_
            exact hret _ _ 83 _ ⟨by omega, by omega⟩ ⟨hI, hW⟩ ⟨⟨by omega, by omega⟩, rfl, (by omega), (iwR_e i39_1 (by rw [wl_wall]; unfold tkR; omega) (by omega) (by omega))⟩ dX12_isWord_83
          · refine z_iload_n F dX12_isWord_43 rfl (q := 3) rfl ?_
            refine z_aload_n F dX12_isWord_44 rfl (q := 1) rfl ?_
            refine zvs_i (i := 59) (rest := [ii y29]) F (kS_len l M ⟨hI, hW⟩ 59 (by decide)) cs_X12_114 (by decide) (by decide) (by decide) rfl rfl rfl (Nat.le_of_ble_eq_true rfl) dX12_isWord_45 (fun v31 M9 rv31 hI9 pv31 => ?_)
            obtain ⟨ev31, rfl⟩ := pv31
            obtain rfl : v31 = 4 := ev31.trans (show ((sbyt.getD 59 []).length : Int) = 4 from by decide)
            clear hI9
            refine z_icmp_ge (tgt := 82) F dX12_isWord_48 (by decide +kernel) (by omega) (by omega) (fun c32 => ?_) (fun c32 => ?_)
            · refine z_iload_n F dX12_isWord_82 rfl (q := 2) rfl ?_
              exact hret _ _ 83 _ ⟨by omega, by omega⟩ ⟨hI, hW⟩ ⟨⟨by omega, by omega⟩, rfl, (by omega), (iwR_e i39_1 (by rw [wl_wall]; unfold tkR; omega) (by omega) (by omega))⟩ dX12_isWord_83
            · refine z_aload_n F dX12_isWord_51 rfl (q := 0) rfl ?_
              refine rf_X12_23 F gs_131 rfl dX12_isWord_52 ?_
              refine z_aload_n F dX12_isWord_55 rfl (q := 0) rfl ?_
              refine gf_X12_85 F hI gs_131 rfl bd_131_9 dX12_isWord_56 (fun v33 ev33 av33 bv33 => ?_)
              have zv33 : u3 = v33 := eu3.trans ev33.symm
              subst zv33
              refine z_iload_n F dX12_isWord_59 rfl (q := 3) rfl ?_
              refine z_iadd F dX12_isWord_60 ?_
              have k34 : 0 ≤ (u3 + y29) ∧ (u3 + y29) ≤ 899 := by omega
              refine z_iald F hI gs_136 (by omega) (by omega) (by decide) bd_136 dX12_isWord_61 (fun v35 (ev35 : v35 = M 136 _) av35 bv35 => ?_)
              refine z_aload_n F dX12_isWord_62 rfl (q := 1) rfl ?_
              refine z_iload_n F dX12_isWord_63 rfl (q := 3) rfl ?_
              refine zvs_i (i := 59) (rest := [ii v35]) F (kS_chr l M ⟨hI, hW⟩ 59 (by decide) y29 (by omega) (show y29 < ((sbyt.getD 59 []).length : Int) from by rw [show ((sbyt.getD 59 []).length : Int) = 4 from by decide]; omega)) cs_X12_119 (by decide) (by decide) (by decide) rfl rfl rfl (Nat.le_of_ble_eq_true rfl) dX12_isWord_64 (fun v36 M9 rv36 hI9 pv36 => ?_)
              obtain ⟨⟨av36, bv36, ev36⟩, rfl⟩ := pv36
              clear hI9
              refine z_icmp_ne (tgt := 74) F dX12_isWord_67 (by decide +kernel) (by omega) (by omega) (fun c37 => ?_) (fun c37 => ?_)
              · refine z_iconst F dX12_isWord_74 ?_
                refine z_istore_n F dX12_isWord_75 rfl (by decide) (ls' := [(2, ii 0), (0, .ref (ad 131)), (1, .ref (ad 1059)), (3, ii y29)]) rfl ?_
                refine z_iincN F dX12_isWord_76 (q := 3) rfl (by decide) (fun v38 ev38 => ?_)
                refine z_eq (ls' := [(3, ii v38), (2, ii 0), (0, .ref (ad 131)), (1, .ref (ad 1059))]) rfl rfl rfl ?_
                refine z_goto (tgt := 39) F dX12_isWord_79 (by decide +kernel) ?_
                refine z_loc [2, 3, 1, 0] (ls' := [(0, .ref (ad 131)), (1, .ref (ad 1059)), (2, ii 0), (3, ii v38)]) rfl ?_
                exact ih39 0 v38 (by omega) (by omega) (by omega) (by omega) (by omega) (by rw [show v38 = y29 + 1 from by omega]; exact iwR_s i39_1 (by omega) (by omega) (by rw [wl_wall]; omega) (by rw [wl_wall]; omega) (show v35 = bR M ((M 131 9).toNat + (y29).toNat) from by show v35 = M 136 _; rw [show (M 131 9).toNat + (y29).toNat = ((u3 + y29)).toNat from by omega]; exact ev35) (ev36.trans (sw_59 (y29).toNat (by omega)).1) (by omega)) (by omega)
              · refine z_iconst F dX12_isWord_70 ?_
                refine z_goto (tgt := 75) F dX12_isWord_71 (by decide +kernel) ?_
                refine z_istore_n F dX12_isWord_75 rfl (by decide) (ls' := [(2, ii 1), (0, .ref (ad 131)), (1, .ref (ad 1059)), (3, ii y29)]) rfl ?_
                refine z_iincN F dX12_isWord_76 (q := 3) rfl (by decide) (fun v39 ev39 => ?_)
                refine z_eq (ls' := [(3, ii v39), (2, ii 1), (0, .ref (ad 131)), (1, .ref (ad 1059))]) rfl rfl rfl ?_
                refine z_goto (tgt := 39) F dX12_isWord_79 (by decide +kernel) ?_
                refine z_loc [2, 3, 1, 0] (ls' := [(0, .ref (ad 131)), (1, .ref (ad 1059)), (2, ii 1), (3, ii v39)]) rfl ?_
                exact ih39 1 v39 (by omega) (by omega) (by omega) (by omega) (by omega) (by rw [show v39 = y29 + 1 from by omega]; exact iwR_s i39_1 (by omega) (by omega) (by rw [wl_wall]; omega) (by rw [wl_wall]; omega) (show v35 = bR M ((M 131 9).toNat + (y29).toNat) from by show v35 = M 136 _; rw [show (M 131 9).toNat + (y29).toNat = ((u3 + y29)).toNat from by omega]; exact ev35) (ev36.trans (sw_59 (y29).toNat (by omega)).1) (by omega)) (by omega)
set_option maxHeartbeats 4000000 in
set_option maxRecDepth 4000 in
theorem kp_X12_took_131_1059 (l : Launch) (M : Mem) (hJ : Iw M) (hp0 : 0 ≤ M 131 9 ∧ M 131 9 ≤ M 131 8 ∧ M 131 8 ≤ M 131 7 ∧ M 131 7 ≤ 900 ∧ (M 131 10 = 0 ∨ M 131 9 < M 131 8)) : CI l yX12_took cX12_took 3 (some .boolean) 6 (fun ad => [.ref (ad 131), .ref (ad 1059)]) M (fun z M' => (0 ≤ z ∧ z ≤ 1) ∧ Fr [131] M M' ∧ (M' 131 7 = M 131 7 ∧ M' 131 16 = M 131 16 ∧ M 131 9 ≤ M' 131 9 ∧ 0 ≤ M' 131 9 ∧ M' 131 9 ≤ M' 131 8 ∧ M' 131 8 ≤ M' 131 7 ∧ M' 131 7 ≤ 900 ∧ (M' 131 10 = 0 ∨ M' 131 9 < M' 131 8) ∧ M' 131 12 = M 131 12 ∧ (z = 1 → M 131 12 = 0 ∧ M 131 9 < M' 131 9)) ∧ (WZ z (isW w_wall (absR M)) ∧ tookW w_wall (absR M) = absR M')) := by
  obtain ⟨hI, hW⟩ := hJ
  have hF : Fr [131] M M := Fr.rf
  refine en_z (by decide +kernel) (fun ad => by exact Nat.le_of_ble_eq_true rfl) (fun D cy ad A p e s m args below meth c Q F hret => ?_)
  refine z_eq (ls' := [(0, .ref (ad 131)), (1, .ref (ad 1059))]) rfl rfl rfl ?_
  refine z_aload_n F dX12_took_0 rfl (q := 0) rfl ?_
  refine z_aload_n F dX12_took_1 rfl (q := 1) rfl ?_
  refine zv_i (rest := []) F (kp_X12_isWord_131_1059 l M ⟨hI, hW⟩ (by omega)) cs_X12_123 (T := TX12) (N := 44) (ci := 12) rfl gs_131 (by decide) (by decide) rfl rfl rfl (Nat.le_of_ble_eq_true rfl) dX12_took_2 (fun v1 M2 rv1 hI p3 => ?_)
  obtain ⟨hI, hW⟩ := hI
  obtain ⟨⟨av1, bv1⟩, rfl, xp3, yp3⟩ := p3
  refine z_istore_n F dX12_took_5 rfl (by decide) (ls' := [(2, ii v1), (0, .ref (ad 131)), (1, .ref (ad 1059))]) rfl ?_
  refine z_iload_n F dX12_took_6 rfl (q := 0) rfl ?_
  refine z_if_eq (tgt := 14) F dX12_took_7 (by decide +kernel) (by omega) (fun c4 => ?_) (fun c4 => ?_)
  · refine z_iload_n F dX12_took_14 rfl (q := 0) rfl ?_
    exact hret _ _ 15 _ ⟨by omega, by omega⟩ ⟨hI, hW⟩ ⟨⟨by omega, by omega⟩, hF, (by omega), ⟨yp3, took_f (wz_f yp3 (by omega))⟩⟩ dX12_took_15
  · refine z_aload_n F dX12_took_10 rfl (q := 1) rfl ?_
    refine zv_v (rest := []) F (kp_X12_readsOn l M ⟨hI, hW⟩ (by omega)) cs_X12_127 (T := TX12) (N := 44) (ci := 12) rfl gs_131 (by decide) (by decide) rfl rfl rfl (Nat.le_of_ble_eq_true rfl) dX12_took_11 (fun M5 hI p6 => ?_)
    obtain ⟨hI, hW⟩ := hI
    obtain ⟨fp6, xp6, yp6⟩ := p6
    have hF := hF.call fp6 (by decide)
    have tM5_133_6 : M5 133 6 = M 133 6 := fp6.at (by decide)
    have tM5_133_1 : M5 133 1 = M 133 1 := fp6.at (by decide)
    refine z_iload_n F dX12_took_14 rfl (q := 0) rfl ?_
    exact hret _ _ 15 _ ⟨by omega, by omega⟩ ⟨hI, hW⟩ ⟨⟨by omega, by omega⟩, hF, (by omega), ⟨yp3, took_t (wz_t yp3 (by omega)) (yp6 (by omega))⟩⟩ dX12_took_15
set_option maxHeartbeats 4000000 in
set_option maxRecDepth 4000 in
theorem kp_X12_lawWord (l : Launch) (M : Mem) (hJ : Iw M) (hp0 : 0 ≤ M 131 9 ∧ M 131 9 ≤ M 131 8 ∧ M 131 8 ≤ M 131 7 ∧ M 131 7 ≤ 900 ∧ (M 131 10 = 0 ∨ M 131 9 < M 131 8)) : CI l yX12_lawWord cX12_lawWord 1 (some .int) 7 (fun ad => [.ref (ad 131)]) M (fun z M' => ((-1) ≤ z ∧ z ≤ 7) ∧ Fr [131] M M' ∧ (M' 131 7 = M 131 7 ∧ M' 131 16 = M 131 16 ∧ M 131 9 ≤ M' 131 9 ∧ 0 ≤ M' 131 9 ∧ M' 131 9 ≤ M' 131 8 ∧ M' 131 8 ≤ M' 131 7 ∧ M' 131 7 ≤ 900 ∧ (M' 131 10 = 0 ∨ M' 131 9 < M' 131 8) ∧ M' 131 12 = M 131 12 ∧ (¬ z = -1 → M 131 12 = 0 ∧ M 131 9 < M' 131 9)) ∧ (Or2 (¬ z = -1 ∧ lawW (absR M) = true ∧ adv (absR M) = absR M') (z = -1 ∧ lawW (absR M) = false ∧ absR M' = absR M))) := by
  obtain ⟨hI, hW⟩ := hJ
  have hF : Fr [131] M M := Fr.rf
  refine en_i (by decide +kernel) (fun ad => by exact Nat.le_of_ble_eq_true rfl) (fun D cy ad A p e s m args below meth c Q F hret => ?_)
  refine z_eq (ls' := [(0, .ref (ad 131))]) rfl rfl rfl ?_
  refine z_aload_n F dX12_lawWord_0 rfl (q := 0) rfl ?_
  refine z_ldcS (j := 75) F dX12_lawWord_1 rfl rfl rfl ?_
  refine z_eq (st' := [.ref (ad 1075), .ref (ad 131)]) rfl rfl rfl ?_
  refine zv_i (rest := []) F (kp_X12_took_131_1075 l M ⟨hI, hW⟩ (by omega)) cs_X12_130 (T := TX12) (N := 44) (ci := 12) rfl gs_131 (by decide) (by decide) rfl rfl rfl (Nat.le_of_ble_eq_true rfl) dX12_lawWord_3 (fun v1 M2 rv1 hI p3 => ?_)
  obtain ⟨hI, hW⟩ := hI
  obtain ⟨⟨av1, bv1⟩, fp3, xp3, yp3⟩ := p3
  have hF := hF.call fp3 (by decide)
  have tM2_133_6 : M2 133 6 = M 133 6 := fp3.at (by decide)
  have tM2_133_1 : M2 133 1 = M 133 1 := fp3.at (by decide)
  refine z_if_eq (tgt := 11) F dX12_lawWord_6 (by decide +kernel) (by omega) (fun c4 => ?_) (fun c4 => ?_)
  · refine z_aload_n F dX12_lawWord_11 rfl (q := 0) rfl ?_
    refine z_ldcS (j := 76) F dX12_lawWord_12 rfl rfl rfl ?_
    refine z_eq (st' := [.ref (ad 1076), .ref (ad 131)]) rfl rfl rfl ?_
    refine zv_i (rest := []) F (kp_X12_took_131_1076 l M2 ⟨hI, hW⟩ (by omega)) cs_X12_130 (T := TX12) (N := 44) (ci := 12) rfl gs_131 (by decide) (by decide) rfl rfl rfl (Nat.le_of_ble_eq_true rfl) dX12_lawWord_14 (fun v5 M6 rv5 hI p7 => ?_)
    obtain ⟨hI, hW⟩ := hI
    obtain ⟨⟨av5, bv5⟩, fp7, xp7, yp7⟩ := p7
    have hF := hF.call fp7 (by decide)
    have tM6_133_6 : M6 133 6 = M2 133 6 := fp7.at (by decide)
    have tM6_133_1 : M6 133 1 = M2 133 1 := fp7.at (by decide)
    refine z_if_eq (tgt := 22) F dX12_lawWord_17 (by decide +kernel) (by omega) (fun c8 => ?_) (fun c8 => ?_)
    · refine z_aload_n F dX12_lawWord_22 rfl (q := 0) rfl ?_
      refine z_ldcS (j := 77) F dX12_lawWord_23 rfl rfl rfl ?_
      refine z_eq (st' := [.ref (ad 1077), .ref (ad 131)]) rfl rfl rfl ?_
      refine zv_i (rest := []) F (kp_X12_took_131_1077 l M6 ⟨hI, hW⟩ (by omega)) cs_X12_130 (T := TX12) (N := 44) (ci := 12) rfl gs_131 (by decide) (by decide) rfl rfl rfl (Nat.le_of_ble_eq_true rfl) dX12_lawWord_25 (fun v9 M10 rv9 hI p11 => ?_)
      obtain ⟨hI, hW⟩ := hI
      obtain ⟨⟨av9, bv9⟩, fp11, xp11, yp11⟩ := p11
      have hF := hF.call fp11 (by decide)
      have tM10_133_6 : M10 133 6 = M6 133 6 := fp11.at (by decide)
      have tM10_133_1 : M10 133 1 = M6 133 1 := fp11.at (by decide)
      refine z_if_eq (tgt := 33) F dX12_lawWord_28 (by decide +kernel) (by omega) (fun c12 => ?_) (fun c12 => ?_)
      · refine z_aload_n F dX12_lawWord_33 rfl (q := 0) rfl ?_
        refine z_ldcS (j := 78) F dX12_lawWord_34 rfl rfl rfl ?_
        refine z_eq (st' := [.ref (ad 1078), .ref (ad 131)]) rfl rfl rfl ?_
        refine zv_i (rest := []) F (kp_X12_took_131_1078 l M10 ⟨hI, hW⟩ (by omega)) cs_X12_130 (T := TX12) (N := 44) (ci := 12) rfl gs_131 (by decide) (by decide) rfl rfl rfl (Nat.le_of_ble_eq_true rfl) dX12_lawWord_36 (fun v13 M14 rv13 hI p15 => ?_)
        obtain ⟨hI, hW⟩ := hI
        obtain ⟨⟨av13, bv13⟩, fp15, xp15, yp15⟩ := p15
        have hF := hF.call fp15 (by decide)
        have tM14_133_6 : M14 133 6 = M10 133 6 := fp15.at (by decide)
        have tM14_133_1 : M14 133 1 = M10 133 1 := fp15.at (by decide)
        refine z_if_eq (tgt := 44) F dX12_lawWord_39 (by decide +kernel) (by omega) (fun c16 => ?_) (fun c16 => ?_)
        · refine z_aload_n F dX12_lawWord_44 rfl (q := 0) rfl ?_
          refine z_ldcS (j := 79) F dX12_lawWord_45 rfl rfl rfl ?_
          refine z_eq (st' := [.ref (ad 1079), .ref (ad 131)]) rfl rfl rfl ?_
          refine zv_i (rest := []) F (kp_X12_took_131_1079 l M14 ⟨hI, hW⟩ (by omega)) cs_X12_130 (T := TX12) (N := 44) (ci := 12) rfl gs_131 (by decide) (by decide) rfl rfl rfl (Nat.le_of_ble_eq_true rfl) dX12_lawWord_47 (fun v17 M18 rv17 hI p19 => ?_)
          obtain ⟨hI, hW⟩ := hI
          obtain ⟨⟨av17, bv17⟩, fp19, xp19, yp19⟩ := p19
          have hF := hF.call fp19 (by decide)
          have tM18_133_6 : M18 133 6 = M14 133 6 := fp19.at (by decide)
          have tM18_133_1 : M18 133 1 = M14 133 1 := fp19.at (by decide)
          refine z_if_eq (tgt := 55) F dX12_lawWord_50 (by decide +kernel) (by omega) (fun c20 => ?_) (fun c20 => ?_)
          · refine z_aload_n F dX12_lawWord_55 rfl (q := 0) rfl ?_
            refine z_ldcS (j := 80) F dX12_lawWord_56 rfl rfl rfl ?_
            refine z_eq (st' := [.ref (ad 1080), .ref (ad 131)]) rfl rfl rfl ?_
            refine zv_i (rest := []) F (kp_X12_took_131_1080 l M18 ⟨hI, hW⟩ (by omega)) cs_X12_130 (T := TX12) (N := 44) (ci := 12) rfl gs_131 (by decide) (by decide) rfl rfl rfl (Nat.le_of_ble_eq_true rfl) dX12_lawWord_58 (fun v21 M22 rv21 hI p23 => ?_)
            obtain ⟨hI, hW⟩ := hI
            obtain ⟨⟨av21, bv21⟩, fp23, xp23, yp23⟩ := p23
            have hF := hF.call fp23 (by decide)
            have tM22_133_6 : M22 133 6 = M18 133 6 := fp23.at (by decide)
            have tM22_133_1 : M22 133 1 = M18 133 1 := fp23.at (by decide)
            refine z_if_eq (tgt := 66) F dX12_lawWord_61 (by decide +kernel) (by omega) (fun c24 => ?_) (fun c24 => ?_)
            · refine z_aload_n F dX12_lawWord_66 rfl (q := 0) rfl ?_
              refine z_ldcS (j := 81) F dX12_lawWord_67 rfl rfl rfl ?_
              refine z_eq (st' := [.ref (ad 1081), .ref (ad 131)]) rfl rfl rfl ?_
              refine zv_i (rest := []) F (kp_X12_took_131_1081 l M22 ⟨hI, hW⟩ (by omega)) cs_X12_130 (T := TX12) (N := 44) (ci := 12) rfl gs_131 (by decide) (by decide) rfl rfl rfl (Nat.le_of_ble_eq_true rfl) dX12_lawWord_69 (fun v25 M26 rv25 hI p27 => ?_)
              obtain ⟨hI, hW⟩ := hI
              obtain ⟨⟨av25, bv25⟩, fp27, xp27, yp27⟩ := p27
              have hF := hF.call fp27 (by decide)
              have tM26_133_6 : M26 133 6 = M22 133 6 := fp27.at (by decide)
              have tM26_133_1 : M26 133 1 = M22 133 1 := fp27.at (by decide)
              refine z_if_eq (tgt := 78) F dX12_lawWord_72 (by decide +kernel) (by omega) (fun c28 => ?_) (fun c28 => ?_)
              · refine z_aload_n F dX12_lawWord_78 rfl (q := 0) rfl ?_
                refine z_ldcS (j := 59) F dX12_lawWord_79 rfl rfl rfl ?_
                refine z_eq (st' := [.ref (ad 1059), .ref (ad 131)]) rfl rfl rfl ?_
                refine zv_i (rest := []) F (kp_X12_took_131_1059 l M26 ⟨hI, hW⟩ (by omega)) cs_X12_130 (T := TX12) (N := 44) (ci := 12) rfl gs_131 (by decide) (by decide) rfl rfl rfl (Nat.le_of_ble_eq_true rfl) dX12_lawWord_81 (fun v29 M30 rv29 hI p31 => ?_)
                obtain ⟨hI, hW⟩ := hI
                obtain ⟨⟨av29, bv29⟩, fp31, xp31, yp31⟩ := p31
                have hF := hF.call fp31 (by decide)
                have tM30_133_6 : M30 133 6 = M26 133 6 := fp31.at (by decide)
                have tM30_133_1 : M30 133 1 = M26 133 1 := fp31.at (by decide)
                refine z_if_eq (tgt := 92) F dX12_lawWord_84 (by decide +kernel) (by omega) (fun c32 => ?_) (fun c32 => ?_)
                · refine z_iconst F dX12_lawWord_92 ?_
                  have b33 := wz_f yp3.1 (by omega)
                  have g34 := took_e b33 yp3.2
                  have b35 := wz_f yp7.1 (by omega)
                  have g36 := (took_e b35 yp7.2).trans g34
                  rw [g34] at b35
                  have b37 := wz_f yp11.1 (by omega)
                  have g38 := (took_e b37 yp11.2).trans g36
                  rw [g36] at b37
                  have b39 := wz_f yp15.1 (by omega)
                  have g40 := (took_e b39 yp15.2).trans g38
                  rw [g38] at b39
                  have b41 := wz_f yp19.1 (by omega)
                  have g42 := (took_e b41 yp19.2).trans g40
                  rw [g40] at b41
                  have b43 := wz_f yp23.1 (by omega)
                  have g44 := (took_e b43 yp23.2).trans g42
                  rw [g42] at b43
                  have b45 := wz_f yp27.1 (by omega)
                  have g46 := (took_e b45 yp27.2).trans g44
                  rw [g44] at b45
                  have b47 := wz_f yp31.1 (by omega)
                  have g48 := (took_e b47 yp31.2).trans g46
                  rw [g46] at b47
                  exact hret _ _ 93 _ (by omega) ⟨hI, hW⟩ ⟨⟨by omega, by omega⟩, hF, (by omega), (Or.inr ⟨by omega, (by unfold lawW; simp [b33, b35, b37, b39, b41, b43, b45, b47]), g48⟩)⟩ dX12_lawWord_93
                · refine z_bipush F dX12_lawWord_87 (by decide +kernel) ?_
                  refine z_goto (tgt := 93) F dX12_lawWord_89 (by decide +kernel) ?_
                  have b49 := wz_f yp3.1 (by omega)
                  have g50 := took_e b49 yp3.2
                  have b51 := wz_f yp7.1 (by omega)
                  have g52 := (took_e b51 yp7.2).trans g50
                  rw [g50] at b51
                  have b53 := wz_f yp11.1 (by omega)
                  have g54 := (took_e b53 yp11.2).trans g52
                  rw [g52] at b53
                  have b55 := wz_f yp15.1 (by omega)
                  have g56 := (took_e b55 yp15.2).trans g54
                  rw [g54] at b55
                  have b57 := wz_f yp19.1 (by omega)
                  have g58 := (took_e b57 yp19.2).trans g56
                  rw [g56] at b57
                  have b59 := wz_f yp23.1 (by omega)
                  have g60 := (took_e b59 yp23.2).trans g58
                  rw [g58] at b59
                  have b61 := wz_f yp27.1 (by omega)
                  have g62 := (took_e b61 yp27.2).trans g60
                  rw [g60] at b61
                  have b63 := wz_t yp31.1 (by omega)
                  have a64 := took_a b63 yp31.2
                  rw [g62] at a64 b63
                  exact hret _ _ 93 _ (by omega) ⟨hI, hW⟩ ⟨⟨by omega, by omega⟩, hF, (by omega), (Or.inl ⟨by omega, (by unfold lawW; simp [b49, b51, b53, b55, b57, b59, b61, b63]), a64⟩)⟩ dX12_lawWord_93
              · refine z_bipush F dX12_lawWord_75 (by decide +kernel) ?_
                have b65 := wz_f yp3.1 (by omega)
                have g66 := took_e b65 yp3.2
                have b67 := wz_f yp7.1 (by omega)
                have g68 := (took_e b67 yp7.2).trans g66
                rw [g66] at b67
                have b69 := wz_f yp11.1 (by omega)
                have g70 := (took_e b69 yp11.2).trans g68
                rw [g68] at b69
                have b71 := wz_f yp15.1 (by omega)
                have g72 := (took_e b71 yp15.2).trans g70
                rw [g70] at b71
                have b73 := wz_f yp19.1 (by omega)
                have g74 := (took_e b73 yp19.2).trans g72
                rw [g72] at b73
                have b75 := wz_f yp23.1 (by omega)
                have g76 := (took_e b75 yp23.2).trans g74
                rw [g74] at b75
                have b77 := wz_t yp27.1 (by omega)
                have a78 := took_a b77 yp27.2
                rw [g76] at a78 b77
                exact hret _ _ 77 _ (by omega) ⟨hI, hW⟩ ⟨⟨by omega, by omega⟩, hF, (by omega), (Or.inl ⟨by omega, (by unfold lawW; simp [b65, b67, b69, b71, b73, b75, b77]), a78⟩)⟩ dX12_lawWord_77
            · refine z_iconst F dX12_lawWord_64 ?_
              have b79 := wz_f yp3.1 (by omega)
              have g80 := took_e b79 yp3.2
              have b81 := wz_f yp7.1 (by omega)
              have g82 := (took_e b81 yp7.2).trans g80
              rw [g80] at b81
              have b83 := wz_f yp11.1 (by omega)
              have g84 := (took_e b83 yp11.2).trans g82
              rw [g82] at b83
              have b85 := wz_f yp15.1 (by omega)
              have g86 := (took_e b85 yp15.2).trans g84
              rw [g84] at b85
              have b87 := wz_f yp19.1 (by omega)
              have g88 := (took_e b87 yp19.2).trans g86
              rw [g86] at b87
              have b89 := wz_t yp23.1 (by omega)
              have a90 := took_a b89 yp23.2
              rw [g88] at a90 b89
              exact hret _ _ 65 _ (by omega) ⟨hI, hW⟩ ⟨⟨by omega, by omega⟩, hF, (by omega), (Or.inl ⟨by omega, (by unfold lawW; simp [b79, b81, b83, b85, b87, b89]), a90⟩)⟩ dX12_lawWord_65
          · refine z_iconst F dX12_lawWord_53 ?_
            have b91 := wz_f yp3.1 (by omega)
            have g92 := took_e b91 yp3.2
            have b93 := wz_f yp7.1 (by omega)
            have g94 := (took_e b93 yp7.2).trans g92
            rw [g92] at b93
            have b95 := wz_f yp11.1 (by omega)
            have g96 := (took_e b95 yp11.2).trans g94
            rw [g94] at b95
            have b97 := wz_f yp15.1 (by omega)
            have g98 := (took_e b97 yp15.2).trans g96
            rw [g96] at b97
            have b99 := wz_t yp19.1 (by omega)
            have a100 := took_a b99 yp19.2
            rw [g98] at a100 b99
            exact hret _ _ 54 _ (by omega) ⟨hI, hW⟩ ⟨⟨by omega, by omega⟩, hF, (by omega), (Or.inl ⟨by omega, (by unfold lawW; simp [b91, b93, b95, b97, b99]), a100⟩)⟩ dX12_lawWord_54
        · refine z_iconst F dX12_lawWord_42 ?_
          have b101 := wz_f yp3.1 (by omega)
          have g102 := took_e b101 yp3.2
          have b103 := wz_f yp7.1 (by omega)
          have g104 := (took_e b103 yp7.2).trans g102
          rw [g102] at b103
          have b105 := wz_f yp11.1 (by omega)
          have g106 := (took_e b105 yp11.2).trans g104
          rw [g104] at b105
          have b107 := wz_t yp15.1 (by omega)
          have a108 := took_a b107 yp15.2
          rw [g106] at a108 b107
          exact hret _ _ 43 _ (by omega) ⟨hI, hW⟩ ⟨⟨by omega, by omega⟩, hF, (by omega), (Or.inl ⟨by omega, (by unfold lawW; simp [b101, b103, b105, b107]), a108⟩)⟩ dX12_lawWord_43
      · refine z_iconst F dX12_lawWord_31 ?_
        have b109 := wz_f yp3.1 (by omega)
        have g110 := took_e b109 yp3.2
        have b111 := wz_f yp7.1 (by omega)
        have g112 := (took_e b111 yp7.2).trans g110
        rw [g110] at b111
        have b113 := wz_t yp11.1 (by omega)
        have a114 := took_a b113 yp11.2
        rw [g112] at a114 b113
        exact hret _ _ 32 _ (by omega) ⟨hI, hW⟩ ⟨⟨by omega, by omega⟩, hF, (by omega), (Or.inl ⟨by omega, (by unfold lawW; simp [b109, b111, b113]), a114⟩)⟩ dX12_lawWord_32
    · refine z_iconst F dX12_lawWord_20 ?_
      have b115 := wz_f yp3.1 (by omega)
      have g116 := took_e b115 yp3.2
      have b117 := wz_t yp7.1 (by omega)
      have a118 := took_a b117 yp7.2
      rw [g116] at a118 b117
      exact hret _ _ 21 _ (by omega) ⟨hI, hW⟩ ⟨⟨by omega, by omega⟩, hF, (by omega), (Or.inl ⟨by omega, (by unfold lawW; simp [b115, b117]), a118⟩)⟩ dX12_lawWord_21
  · refine z_iconst F dX12_lawWord_9 ?_
    have b119 := wz_t yp3.1 (by omega)
    have a120 := took_a b119 yp3.2
    skip
    exact hret _ _ 10 _ (by omega) ⟨hI, hW⟩ ⟨⟨by omega, by omega⟩, hF, (by omega), (Or.inl ⟨by omega, (by unfold lawW; simp [b119]), a120⟩)⟩ dX12_lawWord_10
set_option maxHeartbeats 4000000 in
set_option maxRecDepth 4000 in
theorem kp_X12_mustSign (l : Launch) (M : Mem) (hJ : Iw M) (x0 : Int) (hx0a : 1 ≤ x0) (hx0b : x0 ≤ 255) (hp0 : 0 ≤ M 131 9 ∧ M 131 9 ≤ M 131 8 ∧ M 131 8 ≤ M 131 7 ∧ M 131 7 ≤ 900 ∧ (M 131 10 = 0 ∨ M 131 9 < M 131 8)) : CV l yX12_mustSign cX12_mustSign 2 none 3 (fun ad => [.ref (ad 131), ii x0]) M (fun M' => Fr [131] M M' ∧ (M' 131 7 = M 131 7 ∧ M' 131 16 = M 131 16 ∧ M 131 9 ≤ M' 131 9 ∧ 0 ≤ M' 131 9 ∧ M' 131 9 ≤ M' 131 8 ∧ M' 131 8 ≤ M' 131 7 ∧ M' 131 7 ≤ 900 ∧ (M' 131 10 = 0 ∨ M' 131 9 < M' 131 8) ∧ (M' 131 12 = 0 → M 131 12 = 0 ∧ M 131 9 < M' 131 9)) ∧ (mustT x0 (absR M) = absR M')) := by
  obtain ⟨hI, hW⟩ := hJ
  have hF : Fr [131] M M := Fr.rf
  refine en_v (by decide +kernel) (fun ad => by exact Nat.le_of_ble_eq_true rfl) (fun D cy ad A p e s m args below meth c Q F hret => ?_)
  refine z_eq (ls' := [(0, .ref (ad 131)), (1, ii x0)]) rfl rfl rfl ?_
  refine z_aload_n F dX12_mustSign_0 rfl (q := 0) rfl ?_
  refine gf_X12_88 F hI gs_131 rfl bd_131_10 dX12_mustSign_1 (fun v1 ev1 av1 bv1 => ?_)
  refine z_iload_n F dX12_mustSign_4 rfl (q := 1) rfl ?_
  refine z_icmp_eq (tgt := 13) F dX12_mustSign_5 (by decide +kernel) (by omega) (by omega) (fun c2 => ?_) (fun c2 => ?_)
  · refine z_aload_n F dX12_mustSign_13 rfl (q := 0) rfl ?_
    refine gf_X12_108 F hI gs_131 rfl bd_131_12 dX12_mustSign_14 (fun v3 ev3 av3 bv3 => ?_)
    refine z_if_ne (tgt := 24) F dX12_mustSign_17 (by decide +kernel) (by omega) (fun c4 => ?_) (fun c4 => ?_)
    · exact hret _ 24 _ ⟨hI, hW⟩ ⟨hF, (by omega), (mustT_f (by rw [vR_fl]; omega))⟩ dX12_mustSign_24
    · refine z_aload_n F dX12_mustSign_20 rfl (q := 0) rfl ?_
      refine zv_v (rest := []) F (kp_X12_readsOn l M ⟨hI, hW⟩ (by omega)) cs_X12_127 (T := TX12) (N := 44) (ci := 12) rfl gs_131 (by decide) (by decide) rfl rfl rfl (Nat.le_of_ble_eq_true rfl) dX12_mustSign_21 (fun M5 hI p6 => ?_)
      obtain ⟨hI, hW⟩ := hI
      obtain ⟨fp6, xp6, yp6⟩ := p6
      have hF := hF.call fp6 (by decide)
      have tM5_133_6 : M5 133 6 = M 133 6 := fp6.at (by decide)
      have tM5_133_1 : M5 133 1 = M 133 1 := fp6.at (by decide)
      exact hret _ 24 _ ⟨hI, hW⟩ ⟨hF, (by omega), (musT_t (isTR_t (by omega) (by unfold tkR; omega)) (yp6 (by omega)))⟩ dX12_mustSign_24
  · refine z_aload_n F dX12_mustSign_8 rfl (q := 0) rfl ?_
    refine z_iconst F dX12_mustSign_9 ?_
    refine zv_v (rest := []) F (kp_X12_blames l M ⟨hI, hW⟩ 2 (by omega) (by omega)) cs_X12_133 (T := TX12) (N := 44) (ci := 12) rfl gs_131 (by decide) (by decide) rfl rfl rfl (Nat.le_of_ble_eq_true rfl) dX12_mustSign_10 (fun M7 hI p8 => ?_)
    obtain ⟨hI, hW⟩ := hI
    obtain ⟨fp8, xp8, yp8⟩ := p8
    have hF := hF.call fp8 (by decide)
    have tM7_133_6 : M7 133 6 = M 133 6 := fp8.at (by decide)
    have tM7_133_1 : M7 133 1 = M 133 1 := fp8.at (by decide)
    refine z_aload_n F dX12_mustSign_13 rfl (q := 0) rfl ?_
    refine gf_X12_108 F hI gs_131 rfl bd_131_12 dX12_mustSign_14 (fun v9 ev9 av9 bv9 => ?_)
    refine z_if_ne (tgt := 24) F dX12_mustSign_17 (by decide +kernel) (by omega) (fun c10 => ?_) (fun c10 => ?_)
    · exact hret _ 24 _ ⟨hI, hW⟩ ⟨hF, (by omega), (musT_n (isTR_f (by unfold tkR; omega)) yp8)⟩ dX12_mustSign_24
    · refine z_aload_n F dX12_mustSign_20 rfl (q := 0) rfl ?_
      refine zv_v (rest := []) F (kp_X12_readsOn l M7 ⟨hI, hW⟩ (by omega)) cs_X12_127 (T := TX12) (N := 44) (ci := 12) rfl gs_131 (by decide) (by decide) rfl rfl rfl (Nat.le_of_ble_eq_true rfl) dX12_mustSign_21 (fun M11 hI p12 => ?_)
      obtain ⟨hI, hW⟩ := hI
      obtain ⟨fp12, xp12, yp12⟩ := p12
      have hF := hF.call fp12 (by decide)
      have tM11_133_6 : M11 133 6 = M7 133 6 := fp12.at (by decide)
      have tM11_133_1 : M11 133 1 = M7 133 1 := fp12.at (by decide)
      exact hret _ 24 _ ⟨hI, hW⟩ ⟨hF, (by omega), (by exfalso; omega)⟩ dX12_mustSign_24
set_option maxHeartbeats 4000000 in
set_option maxRecDepth 4000 in
theorem kp_X12_isWord_131_1083 (l : Launch) (M : Mem) (hJ : Iw M) (hp0 : 0 ≤ M 131 9 ∧ M 131 9 ≤ M 131 8 ∧ M 131 8 ≤ M 131 7 ∧ M 131 7 ≤ 900 ∧ (M 131 10 = 0 ∨ M 131 9 < M 131 8)) : CI l yX12_isWord cX12_isWord 4 (some .boolean) 5 (fun ad => [.ref (ad 131), .ref (ad 1083)]) M (fun z M' => (0 ≤ z ∧ z ≤ 1) ∧ M = M' ∧ (z = 1 → M 131 12 = 0 ∧ M 131 10 = 1) ∧ (WZ z (isW w_or (absR M)))) := by
  obtain ⟨hI, hW⟩ := hJ
  refine en_z (by decide +kernel) (fun ad => by exact Nat.le_of_ble_eq_true rfl) (fun D cy ad A p e s m args below meth c Q F hret => ?_)
  refine z_eq (ls' := [(0, .ref (ad 131)), (1, .ref (ad 1083))]) rfl rfl rfl ?_
  obtain ⟨u1, eu1⟩ : ∃ v : Int, v = M 131 7 := ⟨_, rfl⟩
  have ku1 : 0 ≤ u1 ∧ u1 ≤ 900 := by have := hI.at (show Bd 131 7 = (0, 900) from rfl); omega
  obtain ⟨u2, eu2⟩ : ∃ v : Int, v = M 131 8 := ⟨_, rfl⟩
  have ku2 : 0 ≤ u2 ∧ u2 ≤ 900 := by have := hI.at (show Bd 131 8 = (0, 900) from rfl); omega
  obtain ⟨u3, eu3⟩ : ∃ v : Int, v = M 131 9 := ⟨_, rfl⟩
  have ku3 : 0 ≤ u3 ∧ u3 ≤ 900 := by have := hI.at (show Bd 131 9 = (0, 900) from rfl); omega
  obtain ⟨u4, eu4⟩ : ∃ v : Int, v = M 131 10 := ⟨_, rfl⟩
  have ku4 : (-2147483648) ≤ u4 ∧ u4 ≤ 2147483647 := by have := hI.at (show Bd 131 10 = (-2147483648, 2147483647) from rfl); omega
  obtain ⟨u5, eu5⟩ : ∃ v : Int, v = M 131 12 := ⟨_, rfl⟩
  have ku5 : 0 ≤ u5 ∧ u5 ≤ 4 := by have := hI.at (show Bd 131 12 = (0, 4) from rfl); omega
  obtain ⟨u6, eu6⟩ : ∃ v : Int, v = M 131 16 := ⟨_, rfl⟩
  have ku6 : (-2147483648) ≤ u6 ∧ u6 ≤ 2147483647 := by have := hI.at (show Bd 131 16 = (-2147483648, 2147483647) from rfl); omega
  refine z_aload_n F dX12_isWord_0 rfl (q := 0) rfl ?_
  refine gf_X12_108 F hI gs_131 rfl bd_131_12 dX12_isWord_1 (fun v7 ev7 av7 bv7 => ?_)
  have zv7 : u5 = v7 := eu5.trans ev7.symm
  subst zv7
  refine z_if_ne (tgt := 35) F dX12_isWord_4 (by decide +kernel) (by omega) (fun c8 => ?_) (fun c8 => ?_)
  · refine z_iconst F dX12_isWord_35 ?_
    refine z_istore_n F dX12_isWord_36 rfl (by decide) (ls' := [(2, ii 0), (0, .ref (ad 131)), (1, .ref (ad 1083))]) rfl ?_
    refine z_iconst F dX12_isWord_37 ?_
    refine z_istore_n F dX12_isWord_38 rfl (by decide) (ls' := [(3, ii 0), (2, ii 0), (0, .ref (ad 131)), (1, .ref (ad 1083))]) rfl ?_
    refine z_loc [2, 3, 1, 0] (ls' := [(0, .ref (ad 131)), (1, .ref (ad 1083)), (2, ii 0), (3, ii 0)]) rfl ?_
    suffices key39 : ∀ (n : Nat) (y10 : Int) (y11 : Int), 0 ≤ y10 → y10 ≤ 0 → 0 ≤ y11 → y11 ≤ 0 → (y10 = 1 → M 131 12 = 0 ∧ M 131 10 = 1 ∧ M 131 8 - M 131 9 = 2) → (Iw_R M w_or y10 y11) → 0 < (n : Int) → Z D cy ad p l e (RMh 5) s m args below meth c A 4 0 0 Q 39 [(0, .ref (ad 131)), (1, .ref (ad 1083)), (2, ii y10), (3, ii y11)] [] M from key39 1 0 0 (by omega) (by omega) (by omega) (by omega) (by omega) (iwR_n (by rw [wl_or]; unfold tkR; omega)) (by omega)
    intro n39
    induction n39 with
    | zero => intro y10 y11 ay10 by10 ay11 by11 i39_0 i39_1 hn39; exfalso; omega
    | succ n39 ih39 =>
      intro y10 y11 ay10 by10 ay11 by11 i39_0 i39_1 hn39
      refine z_iload_n F dX12_isWord_39 rfl (q := 2) rfl ?_
      refine z_if_eq (tgt := 82) F dX12_isWord_40 (by decide +kernel) (by omega) (fun c12 => ?_) (fun c12 => by exfalso; omega)
      refine z_iload_n F dX12_isWord_82 rfl (q := 2) rfl ?_
      exact hret _ _ 83 _ ⟨by omega, by omega⟩ ⟨hI, hW⟩ ⟨⟨by omega, by omega⟩, rfl, (by omega), (iwR_e i39_1 (by rw [wl_or]; unfold tkR; omega) (by omega) (by omega))⟩ dX12_isWord_83
  · refine z_aload_n F dX12_isWord_7 rfl (q := 0) rfl ?_
    refine gf_X12_88 F hI gs_131 rfl bd_131_10 dX12_isWord_8 (fun v13 ev13 av13 bv13 => ?_)
    have zv13 : u4 = v13 := eu4.trans ev13.symm
    subst zv13
    refine z_iconst F dX12_isWord_11 ?_
    refine z_icmp_ne (tgt := 35) F dX12_isWord_12 (by decide +kernel) (by omega) (by omega) (fun c14 => ?_) (fun c14 => ?_)
    · refine z_iconst F dX12_isWord_35 ?_
      refine z_istore_n F dX12_isWord_36 rfl (by decide) (ls' := [(2, ii 0), (0, .ref (ad 131)), (1, .ref (ad 1083))]) rfl ?_
      refine z_iconst F dX12_isWord_37 ?_
      refine z_istore_n F dX12_isWord_38 rfl (by decide) (ls' := [(3, ii 0), (2, ii 0), (0, .ref (ad 131)), (1, .ref (ad 1083))]) rfl ?_
      refine z_loc [2, 3, 1, 0] (ls' := [(0, .ref (ad 131)), (1, .ref (ad 1083)), (2, ii 0), (3, ii 0)]) rfl ?_
      suffices key39 : ∀ (n : Nat) (y16 : Int) (y17 : Int), 0 ≤ y16 → y16 ≤ 0 → 0 ≤ y17 → y17 ≤ 0 → (y16 = 1 → M 131 12 = 0 ∧ M 131 10 = 1 ∧ M 131 8 - M 131 9 = 2) → (Iw_R M w_or y16 y17) → 0 < (n : Int) → Z D cy ad p l e (RMh 5) s m args below meth c A 4 0 0 Q 39 [(0, .ref (ad 131)), (1, .ref (ad 1083)), (2, ii y16), (3, ii y17)] [] M from key39 1 0 0 (by omega) (by omega) (by omega) (by omega) (by omega) (iwR_n (by rw [wl_or]; unfold tkR; omega)) (by omega)
      intro n39
      induction n39 with
      | zero => intro y16 y17 ay16 by16 ay17 by17 i39_0 i39_1 hn39; exfalso; omega
      | succ n39 ih39 =>
        intro y16 y17 ay16 by16 ay17 by17 i39_0 i39_1 hn39
        refine z_iload_n F dX12_isWord_39 rfl (q := 2) rfl ?_
        refine z_if_eq (tgt := 82) F dX12_isWord_40 (by decide +kernel) (by omega) (fun c18 => ?_) (fun c18 => by exfalso; omega)
        refine z_iload_n F dX12_isWord_82 rfl (q := 2) rfl ?_
        exact hret _ _ 83 _ ⟨by omega, by omega⟩ ⟨hI, hW⟩ ⟨⟨by omega, by omega⟩, rfl, (by omega), (iwR_e i39_1 (by rw [wl_or]; unfold tkR; omega) (by omega) (by omega))⟩ dX12_isWord_83
    · refine z_aload_n F dX12_isWord_15 rfl (q := 0) rfl ?_
      refine gf_X12_82 F hI gs_131 rfl bd_131_8 dX12_isWord_16 (fun v19 ev19 av19 bv19 => ?_)
      have zv19 : u2 = v19 := eu2.trans ev19.symm
      subst zv19
      refine z_aload_n F dX12_isWord_19 rfl (q := 0) rfl ?_
      refine gf_X12_85 F hI gs_131 rfl bd_131_9 dX12_isWord_20 (fun v20 ev20 av20 bv20 => ?_)
      have zv20 : u3 = v20 := eu3.trans ev20.symm
      subst zv20
      refine z_isub F dX12_isWord_23 ?_
      refine z_aload_n F dX12_isWord_24 rfl (q := 1) rfl ?_
      refine zvs_i (i := 83) (rest := [ii (u2 - u3)]) F (kS_len l M ⟨hI, hW⟩ 83 (by decide)) cs_X12_114 (by decide) (by decide) (by decide) rfl rfl rfl (Nat.le_of_ble_eq_true rfl) dX12_isWord_25 (fun v21 M9 rv21 hI9 pv21 => ?_)
      obtain ⟨ev21, rfl⟩ := pv21
      obtain rfl : v21 = 2 := ev21.trans (show ((sbyt.getD 83 []).length : Int) = 2 from by decide)
      clear hI9
      refine z_icmp_ne (tgt := 35) F dX12_isWord_28 (by decide +kernel) (by omega) (by omega) (fun c22 => ?_) (fun c22 => ?_)
      · refine z_iconst F dX12_isWord_35 ?_
        refine z_istore_n F dX12_isWord_36 rfl (by decide) (ls' := [(2, ii 0), (0, .ref (ad 131)), (1, .ref (ad 1083))]) rfl ?_
        refine z_iconst F dX12_isWord_37 ?_
        refine z_istore_n F dX12_isWord_38 rfl (by decide) (ls' := [(3, ii 0), (2, ii 0), (0, .ref (ad 131)), (1, .ref (ad 1083))]) rfl ?_
        refine z_loc [2, 3, 1, 0] (ls' := [(0, .ref (ad 131)), (1, .ref (ad 1083)), (2, ii 0), (3, ii 0)]) rfl ?_
        suffices key39 : ∀ (n : Nat) (y24 : Int) (y25 : Int), 0 ≤ y24 → y24 ≤ 0 → 0 ≤ y25 → y25 ≤ 0 → (y24 = 1 → M 131 12 = 0 ∧ M 131 10 = 1 ∧ M 131 8 - M 131 9 = 2) → (Iw_R M w_or y24 y25) → 0 < (n : Int) → Z D cy ad p l e (RMh 5) s m args below meth c A 4 0 0 Q 39 [(0, .ref (ad 131)), (1, .ref (ad 1083)), (2, ii y24), (3, ii y25)] [] M from key39 1 0 0 (by omega) (by omega) (by omega) (by omega) (by omega) (iwR_n (by rw [wl_or]; unfold tkR; omega)) (by omega)
        intro n39
        induction n39 with
        | zero => intro y24 y25 ay24 by24 ay25 by25 i39_0 i39_1 hn39; exfalso; omega
        | succ n39 ih39 =>
          intro y24 y25 ay24 by24 ay25 by25 i39_0 i39_1 hn39
          refine z_iload_n F dX12_isWord_39 rfl (q := 2) rfl ?_
          refine z_if_eq (tgt := 82) F dX12_isWord_40 (by decide +kernel) (by omega) (fun c26 => ?_) (fun c26 => by exfalso; omega)
          refine z_iload_n F dX12_isWord_82 rfl (q := 2) rfl ?_
          exact hret _ _ 83 _ ⟨by omega, by omega⟩ ⟨hI, hW⟩ ⟨⟨by omega, by omega⟩, rfl, (by omega), (iwR_e i39_1 (by rw [wl_or]; unfold tkR; omega) (by omega) (by omega))⟩ dX12_isWord_83
      · refine z_iconst F dX12_isWord_31 ?_
        refine z_goto (tgt := 36) F dX12_isWord_32 (by decide +kernel) ?_
        refine z_istore_n F dX12_isWord_36 rfl (by decide) (ls' := [(2, ii 1), (0, .ref (ad 131)), (1, .ref (ad 1083))]) rfl ?_
        refine z_iconst F dX12_isWord_37 ?_
        refine z_istore_n F dX12_isWord_38 rfl (by decide) (ls' := [(3, ii 0), (2, ii 1), (0, .ref (ad 131)), (1, .ref (ad 1083))]) rfl ?_
        refine z_loc [2, 3, 1, 0] (ls' := [(0, .ref (ad 131)), (1, .ref (ad 1083)), (2, ii 1), (3, ii 0)]) rfl ?_
        suffices key39 : ∀ (n : Nat) (y28 : Int) (y29 : Int), 0 ≤ y28 → y28 ≤ 1 → 0 ≤ y29 → y29 ≤ 2 → (y28 = 1 → M 131 12 = 0 ∧ M 131 10 = 1 ∧ M 131 8 - M 131 9 = 2) → (Iw_R M w_or y28 y29) → 2 - y29 < (n : Int) → Z D cy ad p l e (RMh 5) s m args below meth c A 4 0 0 Q 39 [(0, .ref (ad 131)), (1, .ref (ad 1083)), (2, ii y28), (3, ii y29)] [] M from key39 3 1 0 (by omega) (by omega) (by omega) (by omega) (by omega) iwR_0 (by omega)
        intro n39
        induction n39 with
        | zero => intro y28 y29 ay28 by28 ay29 by29 i39_0 i39_1 hn39; exfalso; omega
        | succ n39 ih39 =>
          intro y28 y29 ay28 by28 ay29 by29 i39_0 i39_1 hn39
          refine z_iload_n F dX12_isWord_39 rfl (q := 2) rfl ?_
          refine z_if_eq (tgt := 82) F dX12_isWord_40 (by decide +kernel) (by omega) (fun c30 => ?_) (fun c30 => ?_)
          · refine z_iload_n F dX12_isWord_82 rfl (q := 2) rfl ?_
            exact hret _ _ 83 _ ⟨by omega, by omega⟩ ⟨hI, hW⟩ ⟨⟨by omega, by omega⟩, rfl, (by omega), (iwR_e i39_1 (by rw [wl_or]; unfold tkR; omega) (by omega) (by omega))⟩ dX12_isWord_83
          · refine z_iload_n F dX12_isWord_43 rfl (q := 3) rfl ?_
            refine z_aload_n F dX12_isWord_44 rfl (q := 1) rfl ?_
            refine zvs_i (i := 83) (rest := [ii y29]) F (kS_len l M ⟨hI, hW⟩ 83 (by decide)) cs_X12_114 (by decide) (by decide) (by decide) rfl rfl rfl (Nat.le_of_ble_eq_true rfl) dX12_isWord_45 (fun v31 M9 rv31 hI9 pv31 => ?_)
            obtain ⟨ev31, rfl⟩ := pv31
            obtain rfl : v31 = 2 := ev31.trans (show ((sbyt.getD 83 []).length : Int) = 2 from by decide)
            clear hI9
            refine z_icmp_ge (tgt := 82) F dX12_isWord_48 (by decide +kernel) (by omega) (by omega) (fun c32 => ?_) (fun c32 => ?_)
            · refine z_iload_n F dX12_isWord_82 rfl (q := 2) rfl ?_
              exact hret _ _ 83 _ ⟨by omega, by omega⟩ ⟨hI, hW⟩ ⟨⟨by omega, by omega⟩, rfl, (by omega), (iwR_e i39_1 (by rw [wl_or]; unfold tkR; omega) (by omega) (by omega))⟩ dX12_isWord_83
            · refine z_aload_n F dX12_isWord_51 rfl (q := 0) rfl ?_
              refine rf_X12_23 F gs_131 rfl dX12_isWord_52 ?_
              refine z_aload_n F dX12_isWord_55 rfl (q := 0) rfl ?_
              refine gf_X12_85 F hI gs_131 rfl bd_131_9 dX12_isWord_56 (fun v33 ev33 av33 bv33 => ?_)
              have zv33 : u3 = v33 := eu3.trans ev33.symm
              subst zv33
              refine z_iload_n F dX12_isWord_59 rfl (q := 3) rfl ?_
              refine z_iadd F dX12_isWord_60 ?_
              have k34 : 0 ≤ (u3 + y29) ∧ (u3 + y29) ≤ 899 := by omega
              refine z_iald F hI gs_136 (by omega) (by omega) (by decide) bd_136 dX12_isWord_61 (fun v35 (ev35 : v35 = M 136 _) av35 bv35 => ?_)
              refine z_aload_n F dX12_isWord_62 rfl (q := 1) rfl ?_
              refine z_iload_n F dX12_isWord_63 rfl (q := 3) rfl ?_
              refine zvs_i (i := 83) (rest := [ii v35]) F (kS_chr l M ⟨hI, hW⟩ 83 (by decide) y29 (by omega) (show y29 < ((sbyt.getD 83 []).length : Int) from by rw [show ((sbyt.getD 83 []).length : Int) = 2 from by decide]; omega)) cs_X12_119 (by decide) (by decide) (by decide) rfl rfl rfl (Nat.le_of_ble_eq_true rfl) dX12_isWord_64 (fun v36 M9 rv36 hI9 pv36 => ?_)
              obtain ⟨⟨av36, bv36, ev36⟩, rfl⟩ := pv36
              clear hI9
              refine z_icmp_ne (tgt := 74) F dX12_isWord_67 (by decide +kernel) (by omega) (by omega) (fun c37 => ?_) (fun c37 => ?_)
              · refine z_iconst F dX12_isWord_74 ?_
                refine z_istore_n F dX12_isWord_75 rfl (by decide) (ls' := [(2, ii 0), (0, .ref (ad 131)), (1, .ref (ad 1083)), (3, ii y29)]) rfl ?_
                refine z_iincN F dX12_isWord_76 (q := 3) rfl (by decide) (fun v38 ev38 => ?_)
                refine z_eq (ls' := [(3, ii v38), (2, ii 0), (0, .ref (ad 131)), (1, .ref (ad 1083))]) rfl rfl rfl ?_
                refine z_goto (tgt := 39) F dX12_isWord_79 (by decide +kernel) ?_
                refine z_loc [2, 3, 1, 0] (ls' := [(0, .ref (ad 131)), (1, .ref (ad 1083)), (2, ii 0), (3, ii v38)]) rfl ?_
                exact ih39 0 v38 (by omega) (by omega) (by omega) (by omega) (by omega) (by rw [show v38 = y29 + 1 from by omega]; exact iwR_s i39_1 (by omega) (by omega) (by rw [wl_or]; omega) (by rw [wl_or]; omega) (show v35 = bR M ((M 131 9).toNat + (y29).toNat) from by show v35 = M 136 _; rw [show (M 131 9).toNat + (y29).toNat = ((u3 + y29)).toNat from by omega]; exact ev35) (ev36.trans (sw_83 (y29).toNat (by omega)).1) (by omega)) (by omega)
              · refine z_iconst F dX12_isWord_70 ?_
                refine z_goto (tgt := 75) F dX12_isWord_71 (by decide +kernel) ?_
                refine z_istore_n F dX12_isWord_75 rfl (by decide) (ls' := [(2, ii 1), (0, .ref (ad 131)), (1, .ref (ad 1083)), (3, ii y29)]) rfl ?_
                refine z_iincN F dX12_isWord_76 (q := 3) rfl (by decide) (fun v39 ev39 => ?_)
                refine z_eq (ls' := [(3, ii v39), (2, ii 1), (0, .ref (ad 131)), (1, .ref (ad 1083))]) rfl rfl rfl ?_
                refine z_goto (tgt := 39) F dX12_isWord_79 (by decide +kernel) ?_
                refine z_loc [2, 3, 1, 0] (ls' := [(0, .ref (ad 131)), (1, .ref (ad 1083)), (2, ii 1), (3, ii v39)]) rfl ?_
                exact ih39 1 v39 (by omega) (by omega) (by omega) (by omega) (by omega) (by rw [show v39 = y29 + 1 from by omega]; exact iwR_s i39_1 (by omega) (by omega) (by rw [wl_or]; omega) (by rw [wl_or]; omega) (show v35 = bR M ((M 131 9).toNat + (y29).toNat) from by show v35 = M 136 _; rw [show (M 131 9).toNat + (y29).toNat = ((u3 + y29)).toNat from by omega]; exact ev35) (ev36.trans (sw_83 (y29).toNat (by omega)).1) (by omega)) (by omega)
set_option maxHeartbeats 4000000 in
set_option maxRecDepth 4000 in
theorem kp_X12_took_131_1083 (l : Launch) (M : Mem) (hJ : Iw M) (hp0 : 0 ≤ M 131 9 ∧ M 131 9 ≤ M 131 8 ∧ M 131 8 ≤ M 131 7 ∧ M 131 7 ≤ 900 ∧ (M 131 10 = 0 ∨ M 131 9 < M 131 8)) : CI l yX12_took cX12_took 3 (some .boolean) 6 (fun ad => [.ref (ad 131), .ref (ad 1083)]) M (fun z M' => (0 ≤ z ∧ z ≤ 1) ∧ Fr [131] M M' ∧ (M' 131 7 = M 131 7 ∧ M' 131 16 = M 131 16 ∧ M 131 9 ≤ M' 131 9 ∧ 0 ≤ M' 131 9 ∧ M' 131 9 ≤ M' 131 8 ∧ M' 131 8 ≤ M' 131 7 ∧ M' 131 7 ≤ 900 ∧ (M' 131 10 = 0 ∨ M' 131 9 < M' 131 8) ∧ M' 131 12 = M 131 12 ∧ (z = 1 → M 131 12 = 0 ∧ M 131 9 < M' 131 9)) ∧ (WZ z (isW w_or (absR M)) ∧ tookW w_or (absR M) = absR M')) := by
  obtain ⟨hI, hW⟩ := hJ
  have hF : Fr [131] M M := Fr.rf
  refine en_z (by decide +kernel) (fun ad => by exact Nat.le_of_ble_eq_true rfl) (fun D cy ad A p e s m args below meth c Q F hret => ?_)
  refine z_eq (ls' := [(0, .ref (ad 131)), (1, .ref (ad 1083))]) rfl rfl rfl ?_
  refine z_aload_n F dX12_took_0 rfl (q := 0) rfl ?_
  refine z_aload_n F dX12_took_1 rfl (q := 1) rfl ?_
  refine zv_i (rest := []) F (kp_X12_isWord_131_1083 l M ⟨hI, hW⟩ (by omega)) cs_X12_123 (T := TX12) (N := 44) (ci := 12) rfl gs_131 (by decide) (by decide) rfl rfl rfl (Nat.le_of_ble_eq_true rfl) dX12_took_2 (fun v1 M2 rv1 hI p3 => ?_)
  obtain ⟨hI, hW⟩ := hI
  obtain ⟨⟨av1, bv1⟩, rfl, xp3, yp3⟩ := p3
  refine z_istore_n F dX12_took_5 rfl (by decide) (ls' := [(2, ii v1), (0, .ref (ad 131)), (1, .ref (ad 1083))]) rfl ?_
  refine z_iload_n F dX12_took_6 rfl (q := 0) rfl ?_
  refine z_if_eq (tgt := 14) F dX12_took_7 (by decide +kernel) (by omega) (fun c4 => ?_) (fun c4 => ?_)
  · refine z_iload_n F dX12_took_14 rfl (q := 0) rfl ?_
    exact hret _ _ 15 _ ⟨by omega, by omega⟩ ⟨hI, hW⟩ ⟨⟨by omega, by omega⟩, hF, (by omega), ⟨yp3, took_f (wz_f yp3 (by omega))⟩⟩ dX12_took_15
  · refine z_aload_n F dX12_took_10 rfl (q := 1) rfl ?_
    refine zv_v (rest := []) F (kp_X12_readsOn l M ⟨hI, hW⟩ (by omega)) cs_X12_127 (T := TX12) (N := 44) (ci := 12) rfl gs_131 (by decide) (by decide) rfl rfl rfl (Nat.le_of_ble_eq_true rfl) dX12_took_11 (fun M5 hI p6 => ?_)
    obtain ⟨hI, hW⟩ := hI
    obtain ⟨fp6, xp6, yp6⟩ := p6
    have hF := hF.call fp6 (by decide)
    have tM5_133_6 : M5 133 6 = M 133 6 := fp6.at (by decide)
    have tM5_133_1 : M5 133 1 = M 133 1 := fp6.at (by decide)
    refine z_iload_n F dX12_took_14 rfl (q := 0) rfl ?_
    exact hret _ _ 15 _ ⟨by omega, by omega⟩ ⟨hI, hW⟩ ⟨⟨by omega, by omega⟩, hF, (by omega), ⟨yp3, took_t (wz_t yp3 (by omega)) (yp6 (by omega))⟩⟩ dX12_took_15
def RdR (l : Launch) (nr : Nat) : Prop :=
  (∀ (M : Mem) (hJ : Iw M) (hp0 : 0 ≤ M 131 9 ∧ M 131 9 ≤ M 131 8 ∧ M 131 8 ≤ M 131 7 ∧ M 131 7 ≤ 900 ∧ (M 131 10 = 0 ∨ M 131 9 < M 131 8)) (hp1 : 0 ≤ M 131 16 ∧ (M 131 16 ≤ 6 ∨ M 131 16 = 7 ∧ ¬ M 131 12 = 0)) (hp2 : M 133 6 ≤ M 131 9) (hp3 : ¬ M 131 12 = 0 ∨ 0 ≤ Cu M ∧ Cu M + 2 * (6 - M 131 16) + 6 ≤ 64) (hp4 : Wl M) (hmu : (7 - M 131 16) * 8 + 6 < (nr : Int)), CV l yX12_readTruth cX12_readTruth 1 none (14 + nr) (fun ad => [.ref (ad 131)]) M (fun M' => Fr [131, 133] M M' ∧ (Wl M' ∧ 0 ≤ M' 131 9 ∧ M' 131 9 ≤ M' 131 8 ∧ M' 131 8 ≤ M' 131 7 ∧ M' 131 7 ≤ 900 ∧ (M' 131 10 = 0 ∨ M' 131 9 < M' 131 8) ∧ M' 131 7 = M 131 7 ∧ M' 131 16 = M 131 16 ∧ M 131 9 ≤ M' 131 9 ∧ M' 133 6 + M 131 9 ≤ M 133 6 + M' 131 9 ∧ (M' 131 12 = 0 → M 131 12 = 0 ∧ Cu M' = Cu M + 1) ∧ M' 133 1 = M 133 1) ∧ (RdE 0 (M 131 16) (absR M) (absR M')))) ∧
  (∀ (M : Mem) (hJ : Iw M) (hp0 : 0 ≤ M 131 9 ∧ M 131 9 ≤ M 131 8 ∧ M 131 8 ≤ M 131 7 ∧ M 131 7 ≤ 900 ∧ (M 131 10 = 0 ∨ M 131 9 < M 131 8)) (hp1 : 0 ≤ M 131 16 ∧ (M 131 16 ≤ 6 ∨ M 131 16 = 7 ∧ ¬ M 131 12 = 0)) (hp2 : M 133 6 ≤ M 131 9) (hp3 : ¬ M 131 12 = 0 ∨ 0 ≤ Cu M ∧ Cu M + 2 * (6 - M 131 16) + 5 ≤ 64) (hp4 : Wl M) (hmu : (7 - M 131 16) * 8 + 5 < (nr : Int)), CV l yX12_readBoth cX12_readBoth 1 none (14 + nr) (fun ad => [.ref (ad 131)]) M (fun M' => Fr [131, 133] M M' ∧ (Wl M' ∧ 0 ≤ M' 131 9 ∧ M' 131 9 ≤ M' 131 8 ∧ M' 131 8 ≤ M' 131 7 ∧ M' 131 7 ≤ 900 ∧ (M' 131 10 = 0 ∨ M' 131 9 < M' 131 8) ∧ M' 131 7 = M 131 7 ∧ M' 131 16 = M 131 16 ∧ M 131 9 ≤ M' 131 9 ∧ M' 133 6 + M 131 9 ≤ M 133 6 + M' 131 9 ∧ (M' 131 12 = 0 → M 131 12 = 0 ∧ Cu M' = Cu M + 1) ∧ M' 133 1 = M 133 1) ∧ (RdE 1 (M 131 16) (absR M) (absR M')))) ∧
  (∀ (M : Mem) (hJ : Iw M) (hp0 : 0 ≤ M 131 9 ∧ M 131 9 ≤ M 131 8 ∧ M 131 8 ≤ M 131 7 ∧ M 131 7 ≤ 900 ∧ (M 131 10 = 0 ∨ M 131 9 < M 131 8)) (hp1 : 0 ≤ M 131 16 ∧ (M 131 16 ≤ 6 ∨ M 131 16 = 7 ∧ ¬ M 131 12 = 0)) (hp2 : M 133 6 ≤ M 131 9) (hp3 : ¬ M 131 12 = 0 ∨ 0 ≤ Cu M ∧ Cu M + 2 * (6 - M 131 16) + 4 ≤ 64) (hp4 : Wl M) (hmu : (7 - M 131 16) * 8 + 4 < (nr : Int)), CV l yX12_readUnit cX12_readUnit 2 none (14 + nr) (fun ad => [.ref (ad 131)]) M (fun M' => Fr [131, 133] M M' ∧ (Wl M' ∧ 0 ≤ M' 131 9 ∧ M' 131 9 ≤ M' 131 8 ∧ M' 131 8 ≤ M' 131 7 ∧ M' 131 7 ≤ 900 ∧ (M' 131 10 = 0 ∨ M' 131 9 < M' 131 8) ∧ M' 131 7 = M 131 7 ∧ M' 131 16 = M 131 16 ∧ M 131 9 ≤ M' 131 9 ∧ M' 133 6 + M 131 9 ≤ M 133 6 + M' 131 9 ∧ (M' 131 12 = 0 → M 131 12 = 0 ∧ Cu M' = Cu M + 1) ∧ M' 133 1 = M 133 1) ∧ (RdE 2 (M 131 16) (absR M) (absR M')))) ∧
  (∀ (M : Mem) (hJ : Iw M) (hp0 : 0 ≤ M 131 9 ∧ M 131 9 ≤ M 131 8 ∧ M 131 8 ≤ M 131 7 ∧ M 131 7 ≤ 900 ∧ (M 131 10 = 0 ∨ M 131 9 < M 131 8)) (hp1 : 0 ≤ M 131 16 ∧ (M 131 16 ≤ 6 ∨ M 131 16 = 7 ∧ ¬ M 131 12 = 0)) (hp2 : M 133 6 ≤ M 131 9) (hp3 : ¬ M 131 12 = 0 ∨ 0 ≤ Cu M ∧ Cu M + 2 * (6 - M 131 16) + 3 ≤ 64) (hp4 : Wl M) (hmu : (7 - M 131 16) * 8 + 3 < (nr : Int)), CV l yX12_readSum cX12_readSum 2 none (14 + nr) (fun ad => [.ref (ad 131)]) M (fun M' => Fr [131, 133] M M' ∧ (Wl M' ∧ 0 ≤ M' 131 9 ∧ M' 131 9 ≤ M' 131 8 ∧ M' 131 8 ≤ M' 131 7 ∧ M' 131 7 ≤ 900 ∧ (M' 131 10 = 0 ∨ M' 131 9 < M' 131 8) ∧ M' 131 7 = M 131 7 ∧ M' 131 16 = M 131 16 ∧ M 131 9 ≤ M' 131 9 ∧ M' 133 6 + M 131 9 ≤ M 133 6 + M' 131 9 ∧ (M' 131 12 = 0 → M 131 12 = 0 ∧ Cu M' = Cu M + 1) ∧ M' 133 1 = M 133 1) ∧ (RdE 3 (M 131 16) (absR M) (absR M')))) ∧
  (∀ (M : Mem) (hJ : Iw M) (hp0 : 0 ≤ M 131 9 ∧ M 131 9 ≤ M 131 8 ∧ M 131 8 ≤ M 131 7 ∧ M 131 7 ≤ 900 ∧ (M 131 10 = 0 ∨ M 131 9 < M 131 8)) (hp1 : 0 ≤ M 131 16 ∧ (M 131 16 ≤ 6 ∨ M 131 16 = 7 ∧ ¬ M 131 12 = 0)) (hp2 : M 133 6 ≤ M 131 9) (hp3 : ¬ M 131 12 = 0 ∨ 0 ≤ Cu M ∧ Cu M + 2 * (6 - M 131 16) + 2 ≤ 64) (hp4 : Wl M) (hmu : (7 - M 131 16) * 8 + 2 < (nr : Int)), CV l yX12_readTerm cX12_readTerm 1 none (14 + nr) (fun ad => [.ref (ad 131)]) M (fun M' => Fr [131, 133] M M' ∧ (Wl M' ∧ 0 ≤ M' 131 9 ∧ M' 131 9 ≤ M' 131 8 ∧ M' 131 8 ≤ M' 131 7 ∧ M' 131 7 ≤ 900 ∧ (M' 131 10 = 0 ∨ M' 131 9 < M' 131 8) ∧ M' 131 7 = M 131 7 ∧ M' 131 16 = M 131 16 ∧ M 131 9 ≤ M' 131 9 ∧ M' 133 6 + M 131 9 ≤ M 133 6 + M' 131 9 ∧ (M' 131 12 = 0 → M 131 12 = 0 ∧ Cu M' = Cu M + 1) ∧ M' 133 1 = M 133 1) ∧ (RdE 4 (M 131 16) (absR M) (absR M')))) ∧
  (∀ (M : Mem) (hJ : Iw M) (hp0 : 0 ≤ M 131 9 ∧ M 131 9 ≤ M 131 8 ∧ M 131 8 ≤ M 131 7 ∧ M 131 7 ≤ 900 ∧ (M 131 10 = 0 ∨ M 131 9 < M 131 8)) (hp1 : 0 ≤ M 131 16 ∧ (M 131 16 ≤ 6 ∨ M 131 16 = 7 ∧ ¬ M 131 12 = 0)) (hp2 : M 133 6 ≤ M 131 9) (hp3 : ¬ M 131 12 = 0 ∨ 0 ≤ Cu M ∧ Cu M + 2 * (6 - M 131 16) + 1 ≤ 64) (hp4 : Wl M) (hmu : (7 - M 131 16) * 8 + 1 < (nr : Int)), CV l yX12_readAtom cX12_readAtom 3 none (14 + nr) (fun ad => [.ref (ad 131)]) M (fun M' => Fr [131, 133] M M' ∧ (Wl M' ∧ 0 ≤ M' 131 9 ∧ M' 131 9 ≤ M' 131 8 ∧ M' 131 8 ≤ M' 131 7 ∧ M' 131 7 ≤ 900 ∧ (M' 131 10 = 0 ∨ M' 131 9 < M' 131 8) ∧ M' 131 7 = M 131 7 ∧ M' 131 16 = M 131 16 ∧ M 131 9 ≤ M' 131 9 ∧ M' 133 6 + M 131 9 ≤ M 133 6 + M' 131 9 ∧ (M' 131 12 = 0 → M 131 12 = 0 ∧ Cu M' = Cu M + 1) ∧ M' 133 1 = M 133 1) ∧ (RdE 5 (M 131 16) (absR M) (absR M'))))
set_option maxHeartbeats 4000000 in
set_option maxRecDepth 4000 in
theorem kp_X12_readTruth (l : Launch) (nr : Nat) (ih : RdR l nr) : ∀ (M : Mem) (hJ : Iw M) (hp0 : 0 ≤ M 131 9 ∧ M 131 9 ≤ M 131 8 ∧ M 131 8 ≤ M 131 7 ∧ M 131 7 ≤ 900 ∧ (M 131 10 = 0 ∨ M 131 9 < M 131 8)) (hp1 : 0 ≤ M 131 16 ∧ (M 131 16 ≤ 6 ∨ M 131 16 = 7 ∧ ¬ M 131 12 = 0)) (hp2 : M 133 6 ≤ M 131 9) (hp3 : ¬ M 131 12 = 0 ∨ 0 ≤ Cu M ∧ Cu M + 2 * (6 - M 131 16) + 6 ≤ 64) (hp4 : Wl M) (hmu : (7 - M 131 16) * 8 + 6 < ((nr + 1 : Nat) : Int)), CV l yX12_readTruth cX12_readTruth 1 none (14 + (nr + 1)) (fun ad => [.ref (ad 131)]) M (fun M' => Fr [131, 133] M M' ∧ (Wl M' ∧ 0 ≤ M' 131 9 ∧ M' 131 9 ≤ M' 131 8 ∧ M' 131 8 ≤ M' 131 7 ∧ M' 131 7 ≤ 900 ∧ (M' 131 10 = 0 ∨ M' 131 9 < M' 131 8) ∧ M' 131 7 = M 131 7 ∧ M' 131 16 = M 131 16 ∧ M 131 9 ≤ M' 131 9 ∧ M' 133 6 + M 131 9 ≤ M 133 6 + M' 131 9 ∧ (M' 131 12 = 0 → M 131 12 = 0 ∧ Cu M' = Cu M + 1) ∧ M' 133 1 = M 133 1) ∧ (RdE 0 (M 131 16) (absR M) (absR M'))) := by
  intro M hJ hp0 hp1 hp2 hp3 hp4 hmu
  obtain ⟨hI, hW⟩ := hJ
  have hF : Fr [131, 133] M M := Fr.rf
  refine en_v (by decide +kernel) (fun ad => by exact Nat.le_of_ble_eq_true rfl) (fun D cy ad A p e s m args below meth c Q F hret => ?_)
  refine z_eq (ls' := [(0, .ref (ad 131))]) rfl rfl rfl ?_
  have hL := hp4
  refine z_aload_n F dX12_readTruth_0 rfl (q := 0) rfl ?_
  refine zv_v (rest := []) F (ih.2.1 M ⟨hI, hW⟩ (by omega) (by omega) (by omega) (by omega) hL (by omega)) cs_X12_144 (T := TX12) (N := 44) (ci := 12) rfl gs_131 (by omega) (by decide) rfl rfl rfl (Nat.le_of_ble_eq_true rfl) dX12_readTruth_1 (fun M1 hI p2 => ?_)
  obtain ⟨hI, hW⟩ := hI
  obtain ⟨fp2, xp2, yp2⟩ := p2
  have hF := hF.call fp2 (by decide)
  have tM1_133_1 : M1 133 1 = M 133 1 := fp2.fr (by decide) (by decide)
  obtain ⟨hL, xp2⟩ := xp2
  refine z_loc [0] (ls' := [(0, .ref (ad 131))]) rfl ?_
  suffices key4 : ∀ (n : Nat) (M3 : Mem), Inv M3 → WFk M3 → Fr [131, 133] M M3 → (0 ≤ M3 131 9 ∧ M3 131 9 ≤ M3 131 8 ∧ M3 131 8 ≤ M3 131 7 ∧ M3 131 7 ≤ 900 ∧ (M3 131 10 = 0 ∨ M3 131 9 < M3 131 8)) → (M3 131 7 = M 131 7 ∧ M3 131 16 = M 131 16 ∧ M 131 9 ≤ M3 131 9 ∧ M3 133 6 + M 131 9 ≤ M 133 6 + M3 131 9 ∧ (M3 131 12 = 0 → M 131 12 = 0 ∧ Cu M3 = Cu M + 1) ∧ M3 133 1 = M 133 1) → (Wl M3) → (LpI 0 6 (M 131 16) (absR M) (absR M3)) → 900 - M3 131 9 < (n : Int) → Z D cy ad p l e (RMh (14 + (nr + 1))) s m args below meth c A 1 0 0 Q 4 [(0, .ref (ad 131))] [] M3 from key4 901 M1 hI hW hF (by omega) (by omega) hL (lp_i0 yp2) (by omega)
  intro n4
  induction n4 with
  | zero => intro M3 hI hW hF i4_0 i4_1 i4_2 i4_3 hn4; exfalso; omega
  | succ n4 ih4 =>
    intro M3 hI hW hF i4_0 i4_1 i4_2 i4_3 hn4
    have hL := i4_2
    refine z_aload_n F dX12_readTruth_4 rfl (q := 0) rfl ?_
    refine z_ldcS (j := 83) F dX12_readTruth_5 rfl rfl rfl ?_
    refine z_eq (st' := [.ref (ad 1083), .ref (ad 131)]) rfl rfl rfl ?_
    refine zv_i (rest := []) F (kp_X12_took_131_1083 l M3 ⟨hI, hW⟩ (by omega)) cs_X12_130 (T := TX12) (N := 44) (ci := 12) rfl gs_131 (by omega) (by decide) rfl rfl rfl (Nat.le_of_ble_eq_true rfl) dX12_readTruth_7 (fun v4 M5 rv4 hI p6 => ?_)
    obtain ⟨hI, hW⟩ := hI
    obtain ⟨⟨av4, bv4⟩, fp6, xp6, yp6⟩ := p6
    have hF := hF.call fp6 (by decide)
    have tM5_133_6 : M5 133 6 = M3 133 6 := fp6.at (by decide)
    have tM5_133_1 : M5 133 1 = M3 133 1 := fp6.at (by decide)
    have hq9 := wl_fr fp6 (by decide)
    have hL := hq9.2 hL
    have cM5 := hq9.1
    clear hq9
    refine z_if_eq (tgt := 26) F dX12_readTruth_10 (by decide +kernel) (by omega) (fun c7 => ?_) (fun c7 => ?_)
    · exact hret _ 26 _ ⟨hI, hW⟩ ⟨hF, ⟨hL, by omega⟩, (by rw [took_e (wz_f yp6.1 (by omega)) yp6.2]; exact lp_e0 i4_3 (wz_f yp6.1 (by omega)))⟩ dX12_readTruth_26
    · refine z_aload_n F dX12_readTruth_13 rfl (q := 0) rfl ?_
      refine zv_v (rest := []) F (ih.2.1 M5 ⟨hI, hW⟩ (by omega) (by omega) (by omega) (by omega) hL (by omega)) cs_X12_144 (T := TX12) (N := 44) (ci := 12) rfl gs_131 (by omega) (by decide) rfl rfl rfl (Nat.le_of_ble_eq_true rfl) dX12_readTruth_14 (fun M8 hI p9 => ?_)
      obtain ⟨hI, hW⟩ := hI
      obtain ⟨fp9, xp9, yp9⟩ := p9
      have hF := hF.call fp9 (by decide)
      have tM8_133_1 : M8 133 1 = M5 133 1 := fp9.fr (by decide) (by decide)
      obtain ⟨hL, xp9⟩ := xp9
      refine z_aload_n F dX12_readTruth_17 rfl (q := 0) rfl ?_
      refine z_bipush F dX12_readTruth_18 (by decide +kernel) ?_
      refine zv_v (rest := []) F (kp_X12_laysStep l M8 ⟨hI, hW⟩ 17 (by omega) (by omega) (by omega) hL (by omega)) cs_X12_149 (T := TX12) (N := 44) (ci := 12) rfl gs_131 (by omega) (by decide) rfl rfl rfl (Nat.le_of_ble_eq_true rfl) dX12_readTruth_20 (fun M10 hI p11 => ?_)
      obtain ⟨hI, hW⟩ := hI
      obtain ⟨fp11, xp11, yp11⟩ := p11
      have hF := hF.call fp11 (by decide)
      have tM10_131_7 : M10 131 7 = M8 131 7 := fp11.at (by decide)
      have tM10_131_8 : M10 131 8 = M8 131 8 := fp11.at (by decide)
      have tM10_131_9 : M10 131 9 = M8 131 9 := fp11.at (by decide)
      have tM10_131_10 : M10 131 10 = M8 131 10 := fp11.at (by decide)
      have tM10_131_12 : M10 131 12 = M8 131 12 := fp11.at (by decide)
      have tM10_131_16 : M10 131 16 = M8 131 16 := fp11.at (by decide)
      have tM10_133_1 : M10 133 1 = M8 133 1 := fp11.fr (by decide) (by decide)
      obtain ⟨hL, xp11⟩ := xp11
      refine z_goto (tgt := 4) F dX12_readTruth_23 (by decide +kernel) ?_
      refine z_loc [0] (ls' := [(0, .ref (ad 131))]) rfl ?_
      have q12 := took_a (wz_t yp6.1 (by omega)) yp6.2
      have y13 := yp9
      rw [show M5 131 16 = M 131 16 from by omega, ← q12] at y13
      exact ih4 M10 hI hW hF (by omega) (by omega) hL (by rw [yp11]; exact lp_b0 i4_3 (wz_t yp6.1 (by omega)) y13) (by omega)
