theorem dX12_readZero_0 : decode cX12_readZero 0 = .ok (.aload_n 0, 1) := by decide +kernel
theorem dX12_readZero_1 : decode cX12_readZero 1 = .ok (.ldc 231, 2) := by decide +kernel
theorem dX12_readZero_10 : decode cX12_readZero 10 = .ok (.getfield 13, 3) := by decide +kernel
theorem dX12_readZero_13 : decode cX12_readZero 13 = .ok (.iconst 5, 1) := by decide +kernel
theorem dX12_readZero_14 : decode cX12_readZero 14 = .ok (.iconst 0, 1) := by decide +kernel
theorem dX12_readZero_15 : decode cX12_readZero 15 = .ok (.iastore, 1) := by decide +kernel
theorem dX12_readZero_16 : decode cX12_readZero 16 = .ok (.goto 65, 3) := by decide +kernel
theorem dX12_readZero_19 : decode cX12_readZero 19 = .ok (.aload_n 0, 1) := by decide +kernel
theorem dX12_readZero_20 : decode cX12_readZero 20 = .ok (.ldc 233, 2) := by decide +kernel
theorem dX12_readZero_22 : decode cX12_readZero 22 = .ok (.invokevirtual 130, 3) := by decide +kernel
theorem dX12_readZero_25 : decode cX12_readZero 25 = .ok (.ifCond .eq 13, 3) := by decide +kernel
theorem dX12_readZero_28 : decode cX12_readZero 28 = .ok (.aload_n 0, 1) := by decide +kernel
theorem dX12_readZero_29 : decode cX12_readZero 29 = .ok (.getfield 13, 3) := by decide +kernel
theorem dX12_readZero_3 : decode cX12_readZero 3 = .ok (.invokevirtual 130, 3) := by decide +kernel
theorem dX12_readZero_32 : decode cX12_readZero 32 = .ok (.iconst 5, 1) := by decide +kernel
theorem dX12_readZero_33 : decode cX12_readZero 33 = .ok (.iconst 1, 1) := by decide +kernel
theorem dX12_readZero_34 : decode cX12_readZero 34 = .ok (.iastore, 1) := by decide +kernel
theorem dX12_readZero_35 : decode cX12_readZero 35 = .ok (.goto 46, 3) := by decide +kernel
theorem dX12_readZero_38 : decode cX12_readZero 38 = .ok (.aload_n 0, 1) := by decide +kernel
theorem dX12_readZero_39 : decode cX12_readZero 39 = .ok (.ldc 235, 2) := by decide +kernel
theorem dX12_readZero_41 : decode cX12_readZero 41 = .ok (.invokevirtual 130, 3) := by decide +kernel
theorem dX12_readZero_44 : decode cX12_readZero 44 = .ok (.ifCond .eq 13, 3) := by decide +kernel
theorem dX12_readZero_47 : decode cX12_readZero 47 = .ok (.aload_n 0, 1) := by decide +kernel
theorem dX12_readZero_48 : decode cX12_readZero 48 = .ok (.getfield 13, 3) := by decide +kernel
theorem dX12_readZero_51 : decode cX12_readZero 51 = .ok (.iconst 5, 1) := by decide +kernel
theorem dX12_readZero_52 : decode cX12_readZero 52 = .ok (.iconst 2, 1) := by decide +kernel
theorem dX12_readZero_53 : decode cX12_readZero 53 = .ok (.iastore, 1) := by decide +kernel
theorem dX12_readZero_54 : decode cX12_readZero 54 = .ok (.goto 27, 3) := by decide +kernel
theorem dX12_readZero_57 : decode cX12_readZero 57 = .ok (.aload_n 0, 1) := by decide +kernel
theorem dX12_readZero_58 : decode cX12_readZero 58 = .ok (.ldc 237, 2) := by decide +kernel
theorem dX12_readZero_6 : decode cX12_readZero 6 = .ok (.ifCond .eq 13, 3) := by decide +kernel
theorem dX12_readZero_60 : decode cX12_readZero 60 = .ok (.invokevirtual 130, 3) := by decide +kernel
theorem dX12_readZero_63 : decode cX12_readZero 63 = .ok (.ifCond .eq 13, 3) := by decide +kernel
theorem dX12_readZero_66 : decode cX12_readZero 66 = .ok (.aload_n 0, 1) := by decide +kernel
theorem dX12_readZero_67 : decode cX12_readZero 67 = .ok (.getfield 13, 3) := by decide +kernel
theorem dX12_readZero_70 : decode cX12_readZero 70 = .ok (.iconst 5, 1) := by decide +kernel
theorem dX12_readZero_71 : decode cX12_readZero 71 = .ok (.iconst 3, 1) := by decide +kernel
theorem dX12_readZero_72 : decode cX12_readZero 72 = .ok (.iastore, 1) := by decide +kernel
theorem dX12_readZero_73 : decode cX12_readZero 73 = .ok (.goto 8, 3) := by decide +kernel
theorem dX12_readZero_76 : decode cX12_readZero 76 = .ok (.aload_n 0, 1) := by decide +kernel
theorem dX12_readZero_77 : decode cX12_readZero 77 = .ok (.iconst 2, 1) := by decide +kernel
theorem dX12_readZero_78 : decode cX12_readZero 78 = .ok (.invokevirtual 133, 3) := by decide +kernel
theorem dX12_readZero_81 : decode cX12_readZero 81 = .ok (.return_, 1) := by decide +kernel
theorem dX12_readZero_9 : decode cX12_readZero 9 = .ok (.aload_n 0, 1) := by decide +kernel
set_option maxHeartbeats 4000000 in
set_option maxRecDepth 4000 in
theorem kp_X12_isWord_131_1072 (l : Launch) (M : Mem) (hJ : Iw M) (hp0 : 0 ≤ M 131 9 ∧ M 131 9 ≤ M 131 8 ∧ M 131 8 ≤ M 131 7 ∧ M 131 7 ≤ 900 ∧ (M 131 10 = 0 ∨ M 131 9 < M 131 8)) : CI l yX12_isWord cX12_isWord 4 (some .boolean) 5 (fun ad => [.ref (ad 131), .ref (ad 1072)]) M (fun z M' => (0 ≤ z ∧ z ≤ 1) ∧ M = M' ∧ (z = 1 → M 131 12 = 0 ∧ M 131 10 = 1) ∧ (WZ z (isW w_neither (absR M)))) := by
  obtain ⟨hI, hW⟩ := hJ
  refine en_z (by decide +kernel) (fun ad => by exact Nat.le_of_ble_eq_true rfl) (fun D cy ad A p e s m args below meth c Q F hret => ?_)
  refine z_eq (ls' := [(0, .ref (ad 131)), (1, .ref (ad 1072))]) rfl rfl rfl ?_
  obtain ⟨u1, eu1⟩ : ∃ v : Int, v = M 131 7 := ⟨_, rfl⟩
  have ku1 : 0 ≤ u1 ∧ u1 ≤ 900 := by have := hI.at (show Bd 131 7 = (0, 900) from rfl); omega
  obtain ⟨u2, eu2⟩ : ∃ v : Int, v = M 131 8 := ⟨_, rfl⟩
  have ku2 : 0 ≤ u2 ∧ u2 ≤ 900 := by have := hI.at (show Bd 131 8 = (0, 900) from rfl); omega
  obtain ⟨u3, eu3⟩ : ∃ v : Int, v = M 131 9 := ⟨_, rfl⟩
  have ku3 : 0 ≤ u3 ∧ u3 ≤ 900 := by have := hI.at (show Bd 131 9 = (0, 900) from rfl); omega
  obtain ⟨u4, eu4⟩ : ∃ v : Int, v = M 131 10 := ⟨_, rfl⟩
  have ku4 : (-2147483648) ≤ u4 ∧ u4 ≤ 2147483647 := by have := hI.at (show Bd 131 10 = (-2147483648, 2147483647) from rfl); omega
  obtain ⟨u5, eu5⟩ : ∃ v : Int, v = M 131 12 := ⟨_, rfl⟩
  have ku5 : 0 ≤ u5 ∧ u5 ≤ 4 := by have := hI.at (show Bd 131 12 = (0, 4) from rfl); omega
  obtain ⟨u6, eu6⟩ : ∃ v : Int, v = M 131 16 := ⟨_, rfl⟩
  have ku6 : (-2147483648) ≤ u6 ∧ u6 ≤ 2147483647 := by have := hI.at (show Bd 131 16 = (-2147483648, 2147483647) from rfl); omega
  refine z_aload_n F dX12_isWord_0 rfl (q := 0) rfl ?_
  refine gf_X12_108 F hI gs_131 rfl bd_131_12 dX12_isWord_1 (fun v7 ev7 av7 bv7 => ?_)
  have zv7 : u5 = v7 := eu5.trans ev7.symm
  subst zv7
  refine z_if_ne (tgt := 35) F dX12_isWord_4 (by decide +kernel) (by omega) (fun c8 => ?_) (fun c8 => ?_)
  · refine z_iconst F dX12_isWord_35 ?_
    refine z_istore_n F dX12_isWord_36 rfl (by decide) (ls' := [(2, ii 0), (0, .ref (ad 131)), (1, .ref (ad 1072))]) rfl ?_
    refine z_iconst F dX12_isWord_37 ?_
    refine z_istore_n F dX12_isWord_38 rfl (by decide) (ls' := [(3, ii 0), (2, ii 0), (0, .ref (ad 131)), (1, .ref (ad 1072))]) rfl ?_
    refine z_loc [2, 3, 1, 0] (ls' := [(0, .ref (ad 131)), (1, .ref (ad 1072)), (2, ii 0), (3, ii 0)]) rfl ?_
    suffices key39 : ∀ (n : Nat) (y10 : Int) (y11 : Int), 0 ≤ y10 → y10 ≤ 0 → 0 ≤ y11 → y11 ≤ 0 → (y10 = 1 → M 131 12 = 0 ∧ M 131 10 = 1 ∧ M 131 8 - M 131 9 = 7) → (Iw_R M w_neither y10 y11) → 0 < (n : Int) → Z D cy ad p l e (RMh 5) s m args below meth c A 4 0 0 Q 39 [(0, .ref (ad 131)), (1, .ref (ad 1072)), (2, ii y10), (3, ii y11)] [] M from key39 1 0 0 (by omega) (by omega) (by omega) (by omega) (by omega) (iwR_n (by rw [wl_neither]; unfold tkR; omega)) (by omega)
    intro n39
    induction n39 with
    | zero => intro y10 y11 ay10 by10 ay11 by11 i39_0 i39_1 hn39; exfalso; omega
    | succ n39 ih39 =>
      intro y10 y11 ay10 by10 ay11 by11 i39_0 i39_1 hn39
      refine z_iload_n F dX12_isWord_39 rfl (q := 2) rfl ?_
      refine z_if_eq (tgt := 82) F dX12_isWord_40 (by decide +kernel) (by omega) (fun c12 => ?_) (fun c12 => by exfalso; omega)
      refine z_iload_n F dX12_isWord_82 rfl (q := 2) rfl ?_
      exact hret _ _ 83 _ ⟨by omega, by omega⟩ ⟨hI, hW⟩ ⟨⟨by omega, by omega⟩, rfl, (by omega), (iwR_e i39_1 (by rw [wl_neither]; unfold tkR; omega) (by omega) (by omega))⟩ dX12_isWord_83
  · refine z_aload_n F dX12_isWord_7 rfl (q := 0) rfl ?_
    refine gf_X12_88 F hI gs_131 rfl bd_131_10 dX12_isWord_8 (fun v13 ev13 av13 bv13 => ?_)
    have zv13 : u4 = v13 := eu4.trans ev13.symm
    subst zv13
    refine z_iconst F dX12_isWord_11 ?_
    refine z_icmp_ne (tgt := 35) F dX12_isWord_12 (by decide +kernel) (by omega) (by omega) (fun c14 => ?_) (fun c14 => ?_)
    · refine z_iconst F dX12_isWord_35 ?_
      refine z_istore_n F dX12_isWord_36 rfl (by decide) (ls' := [(2, ii 0), (0, .ref (ad 131)), (1, .ref (ad 1072))]) rfl ?_
      refine z_iconst F dX12_isWord_37 ?_
      refine z_istore_n F dX12_isWord_38 rfl (by decide) (ls' := [(3, ii 0), (2, ii 0), (0, .ref (ad 131)), (1, .ref (ad 1072))]) rfl ?_
      refine z_loc [2, 3, 1, 0] (ls' := [(0, .ref (ad 131)), (1, .ref (ad 1072)), (2, ii 0), (3, ii 0)]) rfl ?_
      suffices key39 : ∀ (n : Nat) (y16 : Int) (y17 : Int), 0 ≤ y16 → y16 ≤ 0 → 0 ≤ y17 → y17 ≤ 0 → (y16 = 1 → M 131 12 = 0 ∧ M 131 10 = 1 ∧ M 131 8 - M 131 9 = 7) → (Iw_R M w_neither y16 y17) → 0 < (n : Int) → Z D cy ad p l e (RMh 5) s m args below meth c A 4 0 0 Q 39 [(0, .ref (ad 131)), (1, .ref (ad 1072)), (2, ii y16), (3, ii y17)] [] M from key39 1 0 0 (by omega) (by omega) (by omega) (by omega) (by omega) (iwR_n (by rw [wl_neither]; unfold tkR; omega)) (by omega)
      intro n39
      induction n39 with
      | zero => intro y16 y17 ay16 by16 ay17 by17 i39_0 i39_1 hn39; exfalso; omega
      | succ n39 ih39 =>
        intro y16 y17 ay16 by16 ay17 by17 i39_0 i39_1 hn39
        refine z_iload_n F dX12_isWord_39 rfl (q := 2) rfl ?_
        refine z_if_eq (tgt := 82) F dX12_isWord_40 (by decide +kernel) (by omega) (fun c18 => ?_) (fun c18 => by exfalso; omega)
        refine z_iload_n F dX12_isWord_82 rfl (q := 2) rfl ?_
        exact hret _ _ 83 _ ⟨by omega, by omega⟩ ⟨hI, hW⟩ ⟨⟨by omega, by omega⟩, rfl, (by omega), (iwR_e i39_1 (by rw [wl_neither]; unfold tkR; omega) (by omega) (by omega))⟩ dX12_isWord_83
    · refine z_aload_n F dX12_isWord_15 rfl (q := 0) rfl ?_
      refine gf_X12_82 F hI gs_131 rfl bd_131_8 dX12_isWord_16 (fun v19 ev19 av19 bv19 => ?_)
      have zv19 : u2 = v19 := eu2.trans ev19.symm
      subst zv19
      refine z_aload_n F dX12_isWord_19 rfl (q := 0) rfl ?_
      refine gf_X12_85 F hI gs_131 rfl bd_131_9 dX12_isWord_20 (fun v20 ev20 av20 bv20 => ?_)
      have zv20 : u3 = v20 := eu3.trans ev20.symm
      subst zv20
      refine z_isub F dX12_isWord_23 ?_
      refine z_aload_n F dX12_isWord_24 rfl (q := 1) rfl ?_
      refine zvs_i (i := 72) (rest := [ii (u2 - u3)]) F (kS_len l M ⟨hI, hW⟩ 72 (by decide)) cs_X12_114 (by decide) (by decide) (by decide) rfl rfl rfl (Nat.le_of_ble_eq_true rfl) dX12_isWord_25 (fun v21 M9 rv21 hI9 pv21 => ?_)
      obtain ⟨ev21, rfl⟩ := pv21
      obtain rfl : v21 = 7 := ev21.trans (show ((sbyt.getD 72 []).length : Int) = 7 from by decide)
      clear hI9
      refine z_icmp_ne (tgt := 35) F dX12_isWord_28 (by decide +kernel) (by omega) (by omega) (fun c22 => ?_) (fun c22 => ?_)
      · refine z_iconst F dX12_isWord_35 ?_
        refine z_istore_n F dX12_isWord_36 rfl (by decide) (ls' := [(2, ii 0), (0, .ref (ad 131)), (1, .ref (ad 1072))]) rfl ?_
        refine z_iconst F dX12_isWord_37 ?_
        refine z_istore_n F dX12_isWord_38 rfl (by decide) (ls' := [(3, ii 0), (2, ii 0), (0, .ref (ad 131)), (1, .ref (ad 1072))]) rfl ?_
        refine z_loc [2, 3, 1, 0] (ls' := [(0, .ref (ad 131)), (1, .ref (ad 1072)), (2, ii 0), (3, ii 0)]) rfl ?_
        suffices key39 : ∀ (n : Nat) (y24 : Int) (y25 : Int), 0 ≤ y24 → y24 ≤ 0 → 0 ≤ y25 → y25 ≤ 0 → (y24 = 1 → M 131 12 = 0 ∧ M 131 10 = 1 ∧ M 131 8 - M 131 9 = 7) → (Iw_R M w_neither y24 y25) → 0 < (n : Int) → Z D cy ad p l e (RMh 5) s m args below meth c A 4 0 0 Q 39 [(0, .ref (ad 131)), (1, .ref (ad 1072)), (2, ii y24), (3, ii y25)] [] M from key39 1 0 0 (by omega) (by omega) (by omega) (by omega) (by omega) (iwR_n (by rw [wl_neither]; unfold tkR; omega)) (by omega)
        intro n39
        induction n39 with
        | zero => intro y24 y25 ay24 by24 ay25 by25 i39_0 i39_1 hn39; exfalso; omega
        | succ n39 ih39 =>
          intro y24 y25 ay24 by24 ay25 by25 i39_0 i39_1 hn39
          refine z_iload_n F dX12_isWord_39 rfl (q := 2) rfl ?_
          refine z_if_eq (tgt := 82) F dX12_isWord_40 (by decide +kernel) (by omega) (fun c26 => ?_) (fun c26 => by exfalso; omega)
          refine z_iload_n F dX12_isWord_82 rfl (q := 2) rfl ?_
          exact hret _ _ 83 _ ⟨by omega, by omega⟩ ⟨hI, hW⟩ ⟨⟨by omega, by omega⟩, rfl, (by omega), (iwR_e i39_1 (by rw [wl_neither]; unfold tkR; omega) (by omega) (by omega))⟩ dX12_isWord_83
      · refine z_iconst F dX12_isWord_31 ?_
        refine z_goto (tgt := 36) F dX12_isWord_32 (by decide +kernel) ?_
        refine z_istore_n F dX12_isWord_36 rfl (by decide) (ls' := [(2, ii 1), (0, .ref (ad 131)), (1, .ref (ad 1072))]) rfl ?_
        refine z_iconst F dX12_isWord_37 ?_
        refine z_istore_n F dX12_isWord_38 rfl (by decide) (ls' := [(3, ii 0), (2, ii 1), (0, .ref (ad 131)), (1, .ref (ad 1072))]) rfl ?_
        refine z_loc [2, 3, 1, 0] (ls' := [(0, .ref (ad 131)), (1, .ref (ad 1072)), (2, ii 1), (3, ii 0)]) rfl ?_
        suffices key39 : ∀ (n : Nat) (y28 : Int) (y29 : Int), 0 ≤ y28 → y28 ≤ 1 → 0 ≤ y29 → y29 ≤ 7 → (y28 = 1 → M 131 12 = 0 ∧ M 131 10 = 1 ∧ M 131 8 - M 131 9 = 7) → (Iw_R M w_neither y28 y29) → 7 - y29 < (n : Int) → Z D cy ad p l e (RMh 5) s m args below meth c A 4 0 0 Q 39 [(0, .ref (ad 131)), (1, .ref (ad 1072)), (2, ii y28), (3, ii y29)] [] M from key39 8 1 0 (by omega) (by omega) (by omega) (by omega) (by omega) iwR_0 (by omega)
        intro n39
        induction n39 with
        | zero => intro y28 y29 ay28 by28 ay29 by29 i39_0 i39_1 hn39; exfalso; omega
        | succ n39 ih39 =>
          intro y28 y29 ay28 by28 ay29 by29 i39_0 i39_1 hn39
          refine z_iload_n F dX12_isWord_39 rfl (q := 2) rfl ?_
          refine z_if_eq (tgt := 82) F dX12_isWord_40 (by decide +kernel) (by omega) (fun c30 => ?_) (fun c30 => ?_)
          · refine z_iload_n F dX12_isWord_82 rfl (q := 2) rfl ?_
            exact hret _ _ 83 _ ⟨by omega, by omega⟩ ⟨hI, hW⟩ ⟨⟨by omega, by omega⟩, rfl, (by omega), (iwR_e i39_1 (by rw [wl_neither]; unfold tkR; omega) (by omega) (by omega))⟩ dX12_isWord_83
          · refine z_iload_n F dX12_isWord_43 rfl (q := 3) rfl ?_
            refine z_aload_n F dX12_isWord_44 rfl (q := 1) rfl ?_
            refine zvs_i (i := 72) (rest := [ii y29]) F (kS_len l M ⟨hI, hW⟩ 72 (by decide)) cs_X12_114 (by decide) (by decide) (by decide) rfl rfl rfl (Nat.le_of_ble_eq_true rfl) dX12_isWord_45 (fun v31 M9 rv31 hI9 pv31 => ?_)
            obtain ⟨ev31, rfl⟩ := pv31
            obtain rfl : v31 = 7 := ev31.trans (show ((sbyt.getD 72 []).length : Int) = 7 from by decide)
            clear hI9
            refine z_icmp_ge (tgt := 82) F dX12_isWord_48 (by decide +kernel) (by omega) (by omega) (fun c32 => ?_) (fun c32 => ?_)
            · refine z_iload_n F dX12_isWord_82 rfl (q := 2) rfl ?_
              exact hret _ _ 83 _ ⟨by omega, by omega⟩ ⟨hI, hW⟩ ⟨⟨by omega, by omega⟩, rfl, (by omega), (iwR_e i39_1 (by rw [wl_neither]; unfold tkR; omega) (by omega) (by omega))⟩ dX12_isWord_83
            · refine z_aload_n F dX12_isWord_51 rfl (q := 0) rfl ?_
              refine rf_X12_23 F gs_131 rfl dX12_isWord_52 ?_
              refine z_aload_n F dX12_isWord_55 rfl (q := 0) rfl ?_
              refine gf_X12_85 F hI gs_131 rfl bd_131_9 dX12_isWord_56 (fun v33 ev33 av33 bv33 => ?_)
              have zv33 : u3 = v33 := eu3.trans ev33.symm
              subst zv33
              refine z_iload_n F dX12_isWord_59 rfl (q := 3) rfl ?_
              refine z_iadd F dX12_isWord_60 ?_
              have k34 : 0 ≤ (u3 + y29) ∧ (u3 + y29) ≤ 899 := by omega
              refine z_iald F hI gs_136 (by omega) (by omega) (by decide) bd_136 dX12_isWord_61 (fun v35 (ev35 : v35 = M 136 _) av35 bv35 => ?_)
              refine z_aload_n F dX12_isWord_62 rfl (q := 1) rfl ?_
              refine z_iload_n F dX12_isWord_63 rfl (q := 3) rfl ?_
              refine zvs_i (i := 72) (rest := [ii v35]) F (kS_chr l M ⟨hI, hW⟩ 72 (by decide) y29 (by omega) (show y29 < ((sbyt.getD 72 []).length : Int) from by rw [show ((sbyt.getD 72 []).length : Int) = 7 from by decide]; omega)) cs_X12_119 (by decide) (by decide) (by decide) rfl rfl rfl (Nat.le_of_ble_eq_true rfl) dX12_isWord_64 (fun v36 M9 rv36 hI9 pv36 => ?_)
              obtain ⟨⟨av36, bv36, ev36⟩, rfl⟩ := pv36
              clear hI9
              refine z_icmp_ne (tgt := 74) F dX12_isWord_67 (by decide +kernel) (by omega) (by omega) (fun c37 => ?_) (fun c37 => ?_)
              · refine z_iconst F dX12_isWord_74 ?_
                refine z_istore_n F dX12_isWord_75 rfl (by decide) (ls' := [(2, ii 0), (0, .ref (ad 131)), (1, .ref (ad 1072)), (3, ii y29)]) rfl ?_
                refine z_iincN F dX12_isWord_76 (q := 3) rfl (by decide) (fun v38 ev38 => ?_)
                refine z_eq (ls' := [(3, ii v38), (2, ii 0), (0, .ref (ad 131)), (1, .ref (ad 1072))]) rfl rfl rfl ?_
                refine z_goto (tgt := 39) F dX12_isWord_79 (by decide +kernel) ?_
                refine z_loc [2, 3, 1, 0] (ls' := [(0, .ref (ad 131)), (1, .ref (ad 1072)), (2, ii 0), (3, ii v38)]) rfl ?_
                exact ih39 0 v38 (by omega) (by omega) (by omega) (by omega) (by omega) (by rw [show v38 = y29 + 1 from by omega]; exact iwR_s i39_1 (by omega) (by omega) (by rw [wl_neither]; omega) (by rw [wl_neither]; omega) (show v35 = bR M ((M 131 9).toNat + (y29).toNat) from by show v35 = M 136 _; rw [show (M 131 9).toNat + (y29).toNat = ((u3 + y29)).toNat from by omega]; exact ev35) (ev36.trans (sw_72 (y29).toNat (by omega)).1) (by omega)) (by omega)
              · refine z_iconst F dX12_isWord_70 ?_
                refine z_goto (tgt := 75) F dX12_isWord_71 (by decide +kernel) ?_
                refine z_istore_n F dX12_isWord_75 rfl (by decide) (ls' := [(2, ii 1), (0, .ref (ad 131)), (1, .ref (ad 1072)), (3, ii y29)]) rfl ?_
                refine z_iincN F dX12_isWord_76 (q := 3) rfl (by decide) (fun v39 ev39 => ?_)
                refine z_eq (ls' := [(3, ii v39), (2, ii 1), (0, .ref (ad 131)), (1, .ref (ad 1072))]) rfl rfl rfl ?_
                refine z_goto (tgt := 39) F dX12_isWord_79 (by decide +kernel) ?_
                refine z_loc [2, 3, 1, 0] (ls' := [(0, .ref (ad 131)), (1, .ref (ad 1072)), (2, ii 1), (3, ii v39)]) rfl ?_
                exact ih39 1 v39 (by omega) (by omega) (by omega) (by omega) (by omega) (by rw [show v39 = y29 + 1 from by omega]; exact iwR_s i39_1 (by omega) (by omega) (by rw [wl_neither]; omega) (by rw [wl_neither]; omega) (show v35 = bR M ((M 131 9).toNat + (y29).toNat) from by show v35 = M 136 _; rw [show (M 131 9).toNat + (y29).toNat = ((u3 + y29)).toNat from by omega]; exact ev35) (ev36.trans (sw_72 (y29).toNat (by omega)).1) (by omega)) (by omega)
set_option maxHeartbeats 4000000 in
set_option maxRecDepth 4000 in
theorem kp_X12_took_131_1072 (l : Launch) (M : Mem) (hJ : Iw M) (hp0 : 0 ≤ M 131 9 ∧ M 131 9 ≤ M 131 8 ∧ M 131 8 ≤ M 131 7 ∧ M 131 7 ≤ 900 ∧ (M 131 10 = 0 ∨ M 131 9 < M 131 8)) : CI l yX12_took cX12_took 3 (some .boolean) 6 (fun ad => [.ref (ad 131), .ref (ad 1072)]) M (fun z M' => (0 ≤ z ∧ z ≤ 1) ∧ Fr [131] M M' ∧ (M' 131 7 = M 131 7 ∧ M' 131 16 = M 131 16 ∧ M 131 9 ≤ M' 131 9 ∧ 0 ≤ M' 131 9 ∧ M' 131 9 ≤ M' 131 8 ∧ M' 131 8 ≤ M' 131 7 ∧ M' 131 7 ≤ 900 ∧ (M' 131 10 = 0 ∨ M' 131 9 < M' 131 8) ∧ M' 131 12 = M 131 12 ∧ (z = 1 → M 131 12 = 0 ∧ M 131 9 < M' 131 9)) ∧ (WZ z (isW w_neither (absR M)) ∧ tookW w_neither (absR M) = absR M')) := by
  obtain ⟨hI, hW⟩ := hJ
  have hF : Fr [131] M M := Fr.rf
  refine en_z (by decide +kernel) (fun ad => by exact Nat.le_of_ble_eq_true rfl) (fun D cy ad A p e s m args below meth c Q F hret => ?_)
  refine z_eq (ls' := [(0, .ref (ad 131)), (1, .ref (ad 1072))]) rfl rfl rfl ?_
  refine z_aload_n F dX12_took_0 rfl (q := 0) rfl ?_
  refine z_aload_n F dX12_took_1 rfl (q := 1) rfl ?_
  refine zv_i (rest := []) F (kp_X12_isWord_131_1072 l M ⟨hI, hW⟩ (by omega)) cs_X12_123 (T := TX12) (N := 44) (ci := 12) rfl gs_131 (by decide) (by decide) rfl rfl rfl (Nat.le_of_ble_eq_true rfl) dX12_took_2 (fun v1 M2 rv1 hI p3 => ?_)
  obtain ⟨hI, hW⟩ := hI
  obtain ⟨⟨av1, bv1⟩, rfl, xp3, yp3⟩ := p3
  refine z_istore_n F dX12_took_5 rfl (by decide) (ls' := [(2, ii v1), (0, .ref (ad 131)), (1, .ref (ad 1072))]) rfl ?_
  refine z_iload_n F dX12_took_6 rfl (q := 0) rfl ?_
  refine z_if_eq (tgt := 14) F dX12_took_7 (by decide +kernel) (by omega) (fun c4 => ?_) (fun c4 => ?_)
  · refine z_iload_n F dX12_took_14 rfl (q := 0) rfl ?_
    exact hret _ _ 15 _ ⟨by omega, by omega⟩ ⟨hI, hW⟩ ⟨⟨by omega, by omega⟩, hF, (by omega), ⟨yp3, took_f (wz_f yp3 (by omega))⟩⟩ dX12_took_15
  · refine z_aload_n F dX12_took_10 rfl (q := 1) rfl ?_
    refine zv_v (rest := []) F (kp_X12_readsOn l M ⟨hI, hW⟩ (by omega)) cs_X12_127 (T := TX12) (N := 44) (ci := 12) rfl gs_131 (by decide) (by decide) rfl rfl rfl (Nat.le_of_ble_eq_true rfl) dX12_took_11 (fun M5 hI p6 => ?_)
    obtain ⟨hI, hW⟩ := hI
    obtain ⟨fp6, xp6, yp6⟩ := p6
    have hF := hF.call fp6 (by decide)
    have tM5_133_6 : M5 133 6 = M 133 6 := fp6.at (by decide)
    have tM5_133_1 : M5 133 1 = M 133 1 := fp6.at (by decide)
    refine z_iload_n F dX12_took_14 rfl (q := 0) rfl ?_
    exact hret _ _ 15 _ ⟨by omega, by omega⟩ ⟨hI, hW⟩ ⟨⟨by omega, by omega⟩, hF, (by omega), ⟨yp3, took_t (wz_t yp3 (by omega)) (yp6 (by omega))⟩⟩ dX12_took_15
set_option maxHeartbeats 4000000 in
set_option maxRecDepth 4000 in
theorem kp_X12_readZero (l : Launch) (M : Mem) (hJ : Iw M) (hp0 : 0 ≤ M 131 9 ∧ M 131 9 ≤ M 131 8 ∧ M 131 8 ≤ M 131 7 ∧ M 131 7 ≤ 900 ∧ (M 131 10 = 0 ∨ M 131 9 < M 131 8)) (hp1 : M 133 6 ≤ M 131 9) (hp2 : Wl M) (hp3 : M 131 16 = 0) : CV l yX12_readZero cX12_readZero 1 none 7 (fun ad => [.ref (ad 131)]) M (fun M' => Fr [131, 133, 233] M M' ∧ (Wl M' ∧ M' 131 7 = M 131 7 ∧ M' 131 16 = M 131 16 ∧ M 131 9 ≤ M' 131 9 ∧ 0 ≤ M' 131 9 ∧ M' 131 9 ≤ M' 131 8 ∧ M' 131 8 ≤ M' 131 7 ∧ M' 131 7 ≤ 900 ∧ (M' 131 10 = 0 ∨ M' 131 9 < M' 131 8) ∧ M' 133 6 = M 133 6 ∧ M' 133 1 = M 133 1 ∧ (M' 131 12 = 0 → M 131 12 = 0)) ∧ (tR M' = fz (zeroF (absR M)) (dR M))) := by
  obtain ⟨hI, hW⟩ := hJ
  have hF : Fr [131, 133, 233] M M := Fr.rf
  refine en_v (by decide +kernel) (fun ad => by exact Nat.le_of_ble_eq_true rfl) (fun D cy ad A p e s m args below meth c Q F hret => ?_)
  refine z_eq (ls' := [(0, .ref (ad 131))]) rfl rfl rfl ?_
  have hL := hp2
  obtain ⟨g1, g2, g3, g4, hT⟩ := hp0
  have hT : Tk M := hT
  have kbM : 0 ≤ M 131 12 ∧ M 131 12 ≤ 4 := hI.at (show Bd 131 12 = (0, 4) from rfl)
  refine z_aload_n F dX12_readZero_0 rfl (q := 0) rfl ?_
  refine z_ldcS (j := 69) F dX12_readZero_1 rfl rfl rfl ?_
  refine z_eq (st' := [.ref (ad 1069), .ref (ad 131)]) rfl rfl rfl ?_
  refine zv_i (rest := []) F (kp_X12_took_131_1069 l M ⟨hI, hW⟩ ⟨by omega, by omega, by omega, by omega, hT⟩) cs_X12_130 (T := TX12) (N := 44) (ci := 12) rfl gs_131 (by decide) (by decide) rfl rfl rfl (Nat.le_of_ble_eq_true rfl) dX12_readZero_3 (fun v1 M2 rv1 hI p3 => ?_)
  obtain ⟨hI, hW⟩ := hI
  obtain ⟨⟨av1, bv1⟩, fp3, xp3, yp3⟩ := p3
  have hF := hF.call fp3 (by decide)
  have tM2_133_6 : M2 133 6 = M 133 6 := fp3.at (by decide)
  have tM2_133_1 : M2 133 1 = M 133 1 := fp3.at (by decide)
  have tM2_133_2 : M2 133 2 = M 133 2 := fp3.at (by decide)
  have tM2_133_4 : M2 133 4 = M 133 4 := fp3.at (by decide)
  have tM2_133_3 : M2 133 3 = M 133 3 := fp3.at (by decide)
  have hq9 := wl_fr fp3 (by decide)
  have hL := hq9.2 hL
  have cM2 := hq9.1
  clear hq9
  obtain ⟨qp3_0, qp3_1, qp3_2, qp3_3, qp3_4, qp3_5, qp3_6, qp3_7, qp3_8, qp3_9⟩ := xp3
  have kbM2 : 0 ≤ M2 131 12 ∧ M2 131 12 ≤ 4 := hI.at (show Bd 131 12 = (0, 4) from rfl)
  have hT : Tk M2 := qp3_7
  clear qp3_7
  have lzqp3_9 : M 131 9 + v1 ≤ M2 131 9 := by omega
  clear qp3_9
  refine z_if_eq (tgt := 19) F dX12_readZero_6 (by decide +kernel) (by omega) (fun c4 => ?_) (fun c4 => ?_)
  · refine z_aload_n F dX12_readZero_19 rfl (q := 0) rfl ?_
    refine z_ldcS (j := 70) F dX12_readZero_20 rfl rfl rfl ?_
    refine z_eq (st' := [.ref (ad 1070), .ref (ad 131)]) rfl rfl rfl ?_
    refine zv_i (rest := []) F (kp_X12_took_131_1070 l M2 ⟨hI, hW⟩ ⟨by omega, by omega, by omega, by omega, hT⟩) cs_X12_130 (T := TX12) (N := 44) (ci := 12) rfl gs_131 (by decide) (by decide) rfl rfl rfl (Nat.le_of_ble_eq_true rfl) dX12_readZero_22 (fun v5 M6 rv5 hI p7 => ?_)
    obtain ⟨hI, hW⟩ := hI
    obtain ⟨⟨av5, bv5⟩, fp7, xp7, yp7⟩ := p7
    have hF := hF.call fp7 (by decide)
    have tM6_133_6 : M6 133 6 = M2 133 6 := fp7.at (by decide)
    have tM6_133_1 : M6 133 1 = M2 133 1 := fp7.at (by decide)
    have tM6_133_2 : M6 133 2 = M2 133 2 := fp7.at (by decide)
    have tM6_133_4 : M6 133 4 = M2 133 4 := fp7.at (by decide)
    have tM6_133_3 : M6 133 3 = M2 133 3 := fp7.at (by decide)
    have hq9 := wl_fr fp7 (by decide)
    have hL := hq9.2 hL
    have cM6 := hq9.1
    clear hq9
    obtain ⟨qp7_0, qp7_1, qp7_2, qp7_3, qp7_4, qp7_5, qp7_6, qp7_7, qp7_8, qp7_9⟩ := xp7
    have kbM6 : 0 ≤ M6 131 12 ∧ M6 131 12 ≤ 4 := hI.at (show Bd 131 12 = (0, 4) from rfl)
    have hT : Tk M6 := qp7_7
    clear qp7_7
    have lzqp7_9 : M2 131 9 + v5 ≤ M6 131 9 := by omega
    clear qp7_9
    refine z_if_eq (tgt := 38) F dX12_readZero_25 (by decide +kernel) (by omega) (fun c8 => ?_) (fun c8 => ?_)
    · refine z_aload_n F dX12_readZero_38 rfl (q := 0) rfl ?_
      refine z_ldcS (j := 71) F dX12_readZero_39 rfl rfl rfl ?_
      refine z_eq (st' := [.ref (ad 1071), .ref (ad 131)]) rfl rfl rfl ?_
      refine zv_i (rest := []) F (kp_X12_took_131_1071 l M6 ⟨hI, hW⟩ ⟨by omega, by omega, by omega, by omega, hT⟩) cs_X12_130 (T := TX12) (N := 44) (ci := 12) rfl gs_131 (by decide) (by decide) rfl rfl rfl (Nat.le_of_ble_eq_true rfl) dX12_readZero_41 (fun v9 M10 rv9 hI p11 => ?_)
      obtain ⟨hI, hW⟩ := hI
      obtain ⟨⟨av9, bv9⟩, fp11, xp11, yp11⟩ := p11
      have hF := hF.call fp11 (by decide)
      have tM10_133_6 : M10 133 6 = M6 133 6 := fp11.at (by decide)
      have tM10_133_1 : M10 133 1 = M6 133 1 := fp11.at (by decide)
      have tM10_133_2 : M10 133 2 = M6 133 2 := fp11.at (by decide)
      have tM10_133_4 : M10 133 4 = M6 133 4 := fp11.at (by decide)
      have tM10_133_3 : M10 133 3 = M6 133 3 := fp11.at (by decide)
      have hq9 := wl_fr fp11 (by decide)
      have hL := hq9.2 hL
      have cM10 := hq9.1
      clear hq9
      obtain ⟨qp11_0, qp11_1, qp11_2, qp11_3, qp11_4, qp11_5, qp11_6, qp11_7, qp11_8, qp11_9⟩ := xp11
      have kbM10 : 0 ≤ M10 131 12 ∧ M10 131 12 ≤ 4 := hI.at (show Bd 131 12 = (0, 4) from rfl)
      have hT : Tk M10 := qp11_7
      clear qp11_7
      have lzqp11_9 : M6 131 9 + v9 ≤ M10 131 9 := by omega
      clear qp11_9
      refine z_if_eq (tgt := 57) F dX12_readZero_44 (by decide +kernel) (by omega) (fun c12 => ?_) (fun c12 => ?_)
      · refine z_aload_n F dX12_readZero_57 rfl (q := 0) rfl ?_
        refine z_ldcS (j := 72) F dX12_readZero_58 rfl rfl rfl ?_
        refine z_eq (st' := [.ref (ad 1072), .ref (ad 131)]) rfl rfl rfl ?_
        refine zv_i (rest := []) F (kp_X12_took_131_1072 l M10 ⟨hI, hW⟩ ⟨by omega, by omega, by omega, by omega, hT⟩) cs_X12_130 (T := TX12) (N := 44) (ci := 12) rfl gs_131 (by decide) (by decide) rfl rfl rfl (Nat.le_of_ble_eq_true rfl) dX12_readZero_60 (fun v13 M14 rv13 hI p15 => ?_)
        obtain ⟨hI, hW⟩ := hI
        obtain ⟨⟨av13, bv13⟩, fp15, xp15, yp15⟩ := p15
        have hF := hF.call fp15 (by decide)
        have tM14_133_6 : M14 133 6 = M10 133 6 := fp15.at (by decide)
        have tM14_133_1 : M14 133 1 = M10 133 1 := fp15.at (by decide)
        have tM14_133_2 : M14 133 2 = M10 133 2 := fp15.at (by decide)
        have tM14_133_4 : M14 133 4 = M10 133 4 := fp15.at (by decide)
        have tM14_133_3 : M14 133 3 = M10 133 3 := fp15.at (by decide)
        have hq9 := wl_fr fp15 (by decide)
        have hL := hq9.2 hL
        have cM14 := hq9.1
        clear hq9
        obtain ⟨qp15_0, qp15_1, qp15_2, qp15_3, qp15_4, qp15_5, qp15_6, qp15_7, qp15_8, qp15_9⟩ := xp15
        have kbM14 : 0 ≤ M14 131 12 ∧ M14 131 12 ≤ 4 := hI.at (show Bd 131 12 = (0, 4) from rfl)
        have hT : Tk M14 := qp15_7
        clear qp15_7
        have lzqp15_9 : M10 131 9 + v13 ≤ M14 131 9 := by omega
        clear qp15_9
        refine z_if_eq (tgt := 76) F dX12_readZero_63 (by decide +kernel) (by omega) (fun c16 => ?_) (fun c16 => ?_)
        · refine z_aload_n F dX12_readZero_76 rfl (q := 0) rfl ?_
          refine z_iconst F dX12_readZero_77 ?_
          refine zv_v (rest := []) F (kp_X12_blames l M14 ⟨hI, hW⟩ 2 (by omega) (by omega)) cs_X12_133 (T := TX12) (N := 44) (ci := 12) rfl gs_131 (by decide) (by decide) rfl rfl rfl (Nat.le_of_ble_eq_true rfl) dX12_readZero_78 (fun M17 hI p18 => ?_)
          obtain ⟨hI, hW⟩ := hI
          obtain ⟨fp18, xp18, yp18⟩ := p18
          have hF := hF.call fp18 (by decide)
          have tM17_133_6 : M17 133 6 = M14 133 6 := fp18.at (by decide)
          have tM17_133_1 : M17 133 1 = M14 133 1 := fp18.at (by decide)
          have tM17_133_2 : M17 133 2 = M14 133 2 := fp18.at (by decide)
          have tM17_133_4 : M17 133 4 = M14 133 4 := fp18.at (by decide)
          have tM17_133_3 : M17 133 3 = M14 133 3 := fp18.at (by decide)
          have hq9 := wl_fr fp18 (by decide)
          have hL := hq9.2 hL
          have cM17 := hq9.1
          clear hq9
          obtain ⟨qp18_0, qp18_1, qp18_2, qp18_3, qp18_4, qp18_5⟩ := xp18
          have kbM17 : 0 ≤ M17 131 12 ∧ M17 131 12 ≤ 4 := hI.at (show Bd 131 12 = (0, 4) from rfl)
          have hT := tk_eq hT qp18_2 qp18_3 qp18_4
          have b19 := wz_f yp3.1 (by omega)
          have g20 := took_e b19 yp3.2
          have b21 := wz_f yp7.1 (by omega)
          have g22 := (took_e b21 yp7.2).trans g20
          rw [g20] at b21
          have b23 := wz_f yp11.1 (by omega)
          have g24 := (took_e b23 yp11.2).trans g22
          rw [g22] at b23
          have b25 := wz_f yp15.1 (by omega)
          have g26 := (took_e b25 yp15.2).trans g24
          rw [g24] at b25
          have y27 := yp18
          rw [g26] at y27
          exact hret _ 81 _ ⟨hI, hW⟩ ⟨hF, ⟨hL, by omega, by omega, by omega, by omega, by omega, by omega, by omega, hT, by omega, by omega, by omega⟩, (fz_e (zero_5 b19 b21 b23 b25 y27).symm (fun _ => ((show dR M17 = dR M14 from dR_f (fun b => fp18.at (by decide))).trans ((show dR M14 = dR M10 from dR_f (fun b => fp15.at (by decide))).trans ((show dR M10 = dR M6 from dR_f (fun b => fp11.at (by decide))).trans ((show dR M6 = dR M2 from dR_f (fun b => fp7.at (by decide))).trans (show dR M2 = dR M from dR_f (fun b => fp3.at (by decide)))))))))⟩ dX12_readZero_81
        · refine z_aload_n F dX12_readZero_66 rfl (q := 0) rfl ?_
          refine rf_X12_13 F gs_131 rfl dX12_readZero_67 ?_
          refine z_iconst F dX12_readZero_70 ?_
          refine z_iconst F dX12_readZero_71 ?_
          have hIM14 := hI
          refine z_iast F hI gs_133 (by omega) (by omega) (by decide) (show Bd 133 5 = (-2147483648, 2147483647) from rfl) dX12_readZero_72 (by omega) (by omega) (fun M29 hI sf28 f28 => ?_)
          have tM29_131_7 : M29 131 7 = M14 131 7 := f28 131 7 (fun q => absurd q.1 (by decide))
          have tM29_131_8 : M29 131 8 = M14 131 8 := f28 131 8 (fun q => absurd q.1 (by decide))
          have tM29_131_9 : M29 131 9 = M14 131 9 := f28 131 9 (fun q => absurd q.1 (by decide))
          have tM29_131_10 : M29 131 10 = M14 131 10 := f28 131 10 (fun q => absurd q.1 (by decide))
          have tM29_131_12 : M29 131 12 = M14 131 12 := f28 131 12 (fun q => absurd q.1 (by decide))
          have tM29_131_16 : M29 131 16 = M14 131 16 := f28 131 16 (fun q => absurd q.1 (by decide))
          have tM29_133_6 : M29 133 6 = M14 133 6 := f28 133 6 (fun q => absurd q.2 (by decide))
          have tM29_133_1 : M29 133 1 = M14 133 1 := f28 133 1 (fun q => absurd q.2 (by decide))
          have tM29_133_2 : M29 133 2 = M14 133 2 := f28 133 2 (fun q => absurd q.2 (by decide))
          have tM29_133_4 : M29 133 4 = M14 133 4 := f28 133 4 (fun q => absurd q.2 (by decide))
          have tM29_133_3 : M29 133 3 = M14 133 3 := f28 133 3 (fun q => absurd q.2 (by decide))
          have hT := tk_ws f28 (by decide) hT
          have hq9 := wl_wr f28 (by omega)
          have hL := hq9.2 hL
          have cM29 := hq9.1
          clear hq9
          have hF := hF.wrn f28 (by decide) (Or.inr (by decide))
          have hW : WFk M29 := hW.site f28 (by decide)
          have sf28 : M29 133 5 = 3 := sf28
          refine z_goto (tgt := 81) F dX12_readZero_73 (by decide +kernel) ?_
          have b30 := wz_f yp3.1 (by omega)
          have g31 := took_e b30 yp3.2
          have b32 := wz_f yp7.1 (by omega)
          have g33 := (took_e b32 yp7.2).trans g31
          rw [g31] at b32
          have b34 := wz_f yp11.1 (by omega)
          have g35 := (took_e b34 yp11.2).trans g33
          rw [g33] at b34
          have b36 := wz_t yp15.1 (by omega)
          have a37 := took_a b36 yp15.2
          rw [g35] at a37 b36
          exact hret _ 81 _ ⟨hI, hW⟩ ⟨hF, ⟨hL, by omega, by omega, by omega, by omega, by omega, by omega, by omega, hT, by omega, by omega, by omega⟩, (fz_e ((absR_eq (fun j => (f28 131 j (fun q => absurd q.1 (by decide)))) (fun j => (f28 136 j (fun q => absurd q.1 (by decide)))) : absR M29 = absR M14).trans (zero_4 b30 b32 b34 b36 a37).symm) (fun _ => ((show dR M29 = dR M14 from dR_g hIM14 (fun b hb => f28 133 b (fun q => by have := q.2; omega))).trans ((show dR M14 = dR M10 from dR_f (fun b => fp15.at (by decide))).trans ((show dR M10 = dR M6 from dR_f (fun b => fp11.at (by decide))).trans ((show dR M6 = dR M2 from dR_f (fun b => fp7.at (by decide))).trans (show dR M2 = dR M from dR_f (fun b => fp3.at (by decide)))))))))⟩ dX12_readZero_81
      · refine z_aload_n F dX12_readZero_47 rfl (q := 0) rfl ?_
        refine rf_X12_13 F gs_131 rfl dX12_readZero_48 ?_
        refine z_iconst F dX12_readZero_51 ?_
        refine z_iconst F dX12_readZero_52 ?_
        have hIM10 := hI
        refine z_iast F hI gs_133 (by omega) (by omega) (by decide) (show Bd 133 5 = (-2147483648, 2147483647) from rfl) dX12_readZero_53 (by omega) (by omega) (fun M39 hI sf38 f38 => ?_)
        have tM39_131_7 : M39 131 7 = M10 131 7 := f38 131 7 (fun q => absurd q.1 (by decide))
        have tM39_131_8 : M39 131 8 = M10 131 8 := f38 131 8 (fun q => absurd q.1 (by decide))
        have tM39_131_9 : M39 131 9 = M10 131 9 := f38 131 9 (fun q => absurd q.1 (by decide))
        have tM39_131_10 : M39 131 10 = M10 131 10 := f38 131 10 (fun q => absurd q.1 (by decide))
        have tM39_131_12 : M39 131 12 = M10 131 12 := f38 131 12 (fun q => absurd q.1 (by decide))
        have tM39_131_16 : M39 131 16 = M10 131 16 := f38 131 16 (fun q => absurd q.1 (by decide))
        have tM39_133_6 : M39 133 6 = M10 133 6 := f38 133 6 (fun q => absurd q.2 (by decide))
        have tM39_133_1 : M39 133 1 = M10 133 1 := f38 133 1 (fun q => absurd q.2 (by decide))
        have tM39_133_2 : M39 133 2 = M10 133 2 := f38 133 2 (fun q => absurd q.2 (by decide))
        have tM39_133_4 : M39 133 4 = M10 133 4 := f38 133 4 (fun q => absurd q.2 (by decide))
        have tM39_133_3 : M39 133 3 = M10 133 3 := f38 133 3 (fun q => absurd q.2 (by decide))
        have hT := tk_ws f38 (by decide) hT
        have hq9 := wl_wr f38 (by omega)
        have hL := hq9.2 hL
        have cM39 := hq9.1
        clear hq9
        have hF := hF.wrn f38 (by decide) (Or.inr (by decide))
        have hW : WFk M39 := hW.site f38 (by decide)
        have sf38 : M39 133 5 = 2 := sf38
        refine z_goto (tgt := 81) F dX12_readZero_54 (by decide +kernel) ?_
        have b40 := wz_f yp3.1 (by omega)
        have g41 := took_e b40 yp3.2
        have b42 := wz_f yp7.1 (by omega)
        have g43 := (took_e b42 yp7.2).trans g41
        rw [g41] at b42
        have b44 := wz_t yp11.1 (by omega)
        have a45 := took_a b44 yp11.2
        rw [g43] at a45 b44
        exact hret _ 81 _ ⟨hI, hW⟩ ⟨hF, ⟨hL, by omega, by omega, by omega, by omega, by omega, by omega, by omega, hT, by omega, by omega, by omega⟩, (fz_e ((absR_eq (fun j => (f38 131 j (fun q => absurd q.1 (by decide)))) (fun j => (f38 136 j (fun q => absurd q.1 (by decide)))) : absR M39 = absR M10).trans (zero_3 b40 b42 b44 a45).symm) (fun _ => ((show dR M39 = dR M10 from dR_g hIM10 (fun b hb => f38 133 b (fun q => by have := q.2; omega))).trans ((show dR M10 = dR M6 from dR_f (fun b => fp11.at (by decide))).trans ((show dR M6 = dR M2 from dR_f (fun b => fp7.at (by decide))).trans (show dR M2 = dR M from dR_f (fun b => fp3.at (by decide))))))))⟩ dX12_readZero_81
    · refine z_aload_n F dX12_readZero_28 rfl (q := 0) rfl ?_
      refine rf_X12_13 F gs_131 rfl dX12_readZero_29 ?_
      refine z_iconst F dX12_readZero_32 ?_
      refine z_iconst F dX12_readZero_33 ?_
      have hIM6 := hI
      refine z_iast F hI gs_133 (by omega) (by omega) (by decide) (show Bd 133 5 = (-2147483648, 2147483647) from rfl) dX12_readZero_34 (by omega) (by omega) (fun M47 hI sf46 f46 => ?_)
      have tM47_131_7 : M47 131 7 = M6 131 7 := f46 131 7 (fun q => absurd q.1 (by decide))
      have tM47_131_8 : M47 131 8 = M6 131 8 := f46 131 8 (fun q => absurd q.1 (by decide))
      have tM47_131_9 : M47 131 9 = M6 131 9 := f46 131 9 (fun q => absurd q.1 (by decide))
      have tM47_131_10 : M47 131 10 = M6 131 10 := f46 131 10 (fun q => absurd q.1 (by decide))
      have tM47_131_12 : M47 131 12 = M6 131 12 := f46 131 12 (fun q => absurd q.1 (by decide))
      have tM47_131_16 : M47 131 16 = M6 131 16 := f46 131 16 (fun q => absurd q.1 (by decide))
      have tM47_133_6 : M47 133 6 = M6 133 6 := f46 133 6 (fun q => absurd q.2 (by decide))
      have tM47_133_1 : M47 133 1 = M6 133 1 := f46 133 1 (fun q => absurd q.2 (by decide))
      have tM47_133_2 : M47 133 2 = M6 133 2 := f46 133 2 (fun q => absurd q.2 (by decide))
      have tM47_133_4 : M47 133 4 = M6 133 4 := f46 133 4 (fun q => absurd q.2 (by decide))
      have tM47_133_3 : M47 133 3 = M6 133 3 := f46 133 3 (fun q => absurd q.2 (by decide))
      have hT := tk_ws f46 (by decide) hT
      have hq9 := wl_wr f46 (by omega)
      have hL := hq9.2 hL
      have cM47 := hq9.1
      clear hq9
      have hF := hF.wrn f46 (by decide) (Or.inr (by decide))
      have hW : WFk M47 := hW.site f46 (by decide)
      have sf46 : M47 133 5 = 1 := sf46
      refine z_goto (tgt := 81) F dX12_readZero_35 (by decide +kernel) ?_
      have b48 := wz_f yp3.1 (by omega)
      have g49 := took_e b48 yp3.2
      have b50 := wz_t yp7.1 (by omega)
      have a51 := took_a b50 yp7.2
      rw [g49] at a51 b50
      exact hret _ 81 _ ⟨hI, hW⟩ ⟨hF, ⟨hL, by omega, by omega, by omega, by omega, by omega, by omega, by omega, hT, by omega, by omega, by omega⟩, (fz_e ((absR_eq (fun j => (f46 131 j (fun q => absurd q.1 (by decide)))) (fun j => (f46 136 j (fun q => absurd q.1 (by decide)))) : absR M47 = absR M6).trans (zero_2 b48 b50 a51).symm) (fun _ => ((show dR M47 = dR M6 from dR_g hIM6 (fun b hb => f46 133 b (fun q => by have := q.2; omega))).trans ((show dR M6 = dR M2 from dR_f (fun b => fp7.at (by decide))).trans (show dR M2 = dR M from dR_f (fun b => fp3.at (by decide)))))))⟩ dX12_readZero_81
  · refine z_aload_n F dX12_readZero_9 rfl (q := 0) rfl ?_
    refine rf_X12_13 F gs_131 rfl dX12_readZero_10 ?_
    refine z_iconst F dX12_readZero_13 ?_
    refine z_iconst F dX12_readZero_14 ?_
    have hIM2 := hI
    refine z_iast F hI gs_133 (by omega) (by omega) (by decide) (show Bd 133 5 = (-2147483648, 2147483647) from rfl) dX12_readZero_15 (by omega) (by omega) (fun M53 hI sf52 f52 => ?_)
    have tM53_131_7 : M53 131 7 = M2 131 7 := f52 131 7 (fun q => absurd q.1 (by decide))
    have tM53_131_8 : M53 131 8 = M2 131 8 := f52 131 8 (fun q => absurd q.1 (by decide))
    have tM53_131_9 : M53 131 9 = M2 131 9 := f52 131 9 (fun q => absurd q.1 (by decide))
    have tM53_131_10 : M53 131 10 = M2 131 10 := f52 131 10 (fun q => absurd q.1 (by decide))
    have tM53_131_12 : M53 131 12 = M2 131 12 := f52 131 12 (fun q => absurd q.1 (by decide))
    have tM53_131_16 : M53 131 16 = M2 131 16 := f52 131 16 (fun q => absurd q.1 (by decide))
    have tM53_133_6 : M53 133 6 = M2 133 6 := f52 133 6 (fun q => absurd q.2 (by decide))
    have tM53_133_1 : M53 133 1 = M2 133 1 := f52 133 1 (fun q => absurd q.2 (by decide))
    have tM53_133_2 : M53 133 2 = M2 133 2 := f52 133 2 (fun q => absurd q.2 (by decide))
    have tM53_133_4 : M53 133 4 = M2 133 4 := f52 133 4 (fun q => absurd q.2 (by decide))
    have tM53_133_3 : M53 133 3 = M2 133 3 := f52 133 3 (fun q => absurd q.2 (by decide))
    have hT := tk_ws f52 (by decide) hT
    have hq9 := wl_wr f52 (by omega)
    have hL := hq9.2 hL
    have cM53 := hq9.1
    clear hq9
    have hF := hF.wrn f52 (by decide) (Or.inr (by decide))
    have hW : WFk M53 := hW.site f52 (by decide)
    have sf52 : M53 133 5 = 0 := sf52
    refine z_goto (tgt := 81) F dX12_readZero_16 (by decide +kernel) ?_
    have b54 := wz_t yp3.1 (by omega)
    have a55 := took_a b54 yp3.2
    exact hret _ 81 _ ⟨hI, hW⟩ ⟨hF, ⟨hL, by omega, by omega, by omega, by omega, by omega, by omega, by omega, hT, by omega, by omega, by omega⟩, (fz_e ((absR_eq (fun j => (f52 131 j (fun q => absurd q.1 (by decide)))) (fun j => (f52 136 j (fun q => absurd q.1 (by decide)))) : absR M53 = absR M2).trans (zero_1 b54 a55).symm) (fun _ => ((show dR M53 = dR M2 from dR_g hIM2 (fun b hb => f52 133 b (fun q => by have := q.2; omega))).trans (show dR M2 = dR M from dR_f (fun b => fp3.at (by decide))))))⟩ dX12_readZero_81
