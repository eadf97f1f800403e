theorem dX2_strike_0 : decode cX2_strike 0 = .ok (.aload_n 0, 1) := by decide +kernel
theorem dX2_strike_1 : decode cX2_strike 1 = .ok (.iconst 0, 1) := by decide +kernel
theorem dX2_strike_2 : decode cX2_strike 2 = .ok (.putfield 25, 3) := by decide +kernel
theorem dX2_strike_5 : decode cX2_strike 5 = .ok (.return_, 1) := by decide +kernel
theorem dX6_endLine_0 : decode cX6_endLine 0 = .ok (.aload_n 0, 1) := by decide +kernel
theorem dX6_endLine_1 : decode cX6_endLine 1 = .ok (.bipush 59, 2) := by decide +kernel
theorem dX6_endLine_10 : decode cX6_endLine 10 = .ok (.dup, 1) := by decide +kernel
theorem dX6_endLine_11 : decode cX6_endLine 11 = .ok (.getfield 124, 3) := by decide +kernel
theorem dX6_endLine_14 : decode cX6_endLine 14 = .ok (.iconst 1, 1) := by decide +kernel
theorem dX6_endLine_15 : decode cX6_endLine 15 = .ok (.iadd, 1) := by decide +kernel
theorem dX6_endLine_16 : decode cX6_endLine 16 = .ok (.putfield 124, 3) := by decide +kernel
theorem dX6_endLine_19 : decode cX6_endLine 19 = .ok (.return_, 1) := by decide +kernel
theorem dX6_endLine_3 : decode cX6_endLine 3 = .ok (.invokevirtual 120, 3) := by decide +kernel
theorem dX6_endLine_6 : decode cX6_endLine 6 = .ok (.aload_n 0, 1) := by decide +kernel
theorem dX6_endLine_7 : decode cX6_endLine 7 = .ok (.getfield 12, 3) := by decide +kernel
set_option maxHeartbeats 4000000 in
set_option maxRecDepth 4000 in
theorem kp_X6_isWord_18_1003 (l : Launch) (M : Mem) (hJ : Iw M) (hp0 : M 18 6 ≤ M 18 5 ∧ M 18 5 ≤ M 18 4 ∧ M 18 7 ≤ 4 * (M 18 5 - M 18 6)) : CI l yX6_isWord cX6_isWord 3 (some .boolean) 5 (fun ad => [.ref (ad 18), .ref (ad 1003)]) M (fun z M' => (0 ≤ z ∧ z ≤ 1) ∧ M = M' ∧ (M 18 6 + z ≤ M 18 5 ∧ (z = 1 → M 18 1 = 0)) ∧ (WZ z (isW w_touch (absC M)))) := by
  obtain ⟨hI, hW⟩ := hJ
  refine en_z (by decide +kernel) (fun ad => by exact Nat.le_of_ble_eq_true rfl) (fun D cy ad A p e s m args below meth c Q F hret => ?_)
  refine z_eq (ls' := [(0, .ref (ad 18)), (1, .ref (ad 1003))]) rfl rfl rfl ?_
  obtain ⟨u1, eu1⟩ : ∃ v : Int, v = M 18 1 := ⟨_, rfl⟩
  have ku1 : (-2147483648) ≤ u1 ∧ u1 ≤ 2147483647 := by have := hI.at (show Bd 18 1 = (-2147483648, 2147483647) from rfl); omega
  obtain ⟨u2, eu2⟩ : ∃ v : Int, v = M 18 2 := ⟨_, rfl⟩
  have ku2 : (-2147483648) ≤ u2 ∧ u2 ≤ 2147483647 := by have := hI.at (show Bd 18 2 = (-2147483648, 2147483647) from rfl); omega
  obtain ⟨u3, eu3⟩ : ∃ v : Int, v = M 18 4 := ⟨_, rfl⟩
  have ku3 : 0 ≤ u3 ∧ u3 ≤ 900 := by have := hI.at (show Bd 18 4 = (0, 900) from rfl); omega
  obtain ⟨u4, eu4⟩ : ∃ v : Int, v = M 18 5 := ⟨_, rfl⟩
  have ku4 : 0 ≤ u4 ∧ u4 ≤ 900 := by have := hI.at (show Bd 18 5 = (0, 900) from rfl); omega
  obtain ⟨u5, eu5⟩ : ∃ v : Int, v = M 18 6 := ⟨_, rfl⟩
  have ku5 : 0 ≤ u5 ∧ u5 ≤ 900 := by have := hI.at (show Bd 18 6 = (0, 900) from rfl); omega
  obtain ⟨u6, eu6⟩ : ∃ v : Int, v = M 18 7 := ⟨_, rfl⟩
  have ku6 : 0 ≤ u6 ∧ u6 ≤ 4 := by have := hI.at (show Bd 18 7 = (0, 4) from rfl); omega
  obtain ⟨u7, eu7⟩ : ∃ v : Int, v = M 18 8 := ⟨_, rfl⟩
  have ku7 : (-2147483648) ≤ u7 ∧ u7 ≤ 2147483647 := by have := hI.at (show Bd 18 8 = (-2147483648, 2147483647) from rfl); omega
  refine z_aload_n F dX6_isWord_0 rfl (q := 0) rfl ?_
  refine gf_X6_36 F hI gs_18 rfl bd_18_1 dX6_isWord_1 (fun v8 ev8 av8 bv8 => ?_)
  have zv8 : u1 = v8 := eu1.trans ev8.symm
  subst zv8
  refine z_if_ne (tgt := 31) F dX6_isWord_4 (by decide +kernel) (by omega) (fun c9 => ?_) (fun c9 => ?_)
  · refine z_iconst F dX6_isWord_31 ?_
    exact hret _ _ 32 _ ⟨by omega, by omega⟩ ⟨hI, hW⟩ ⟨⟨by omega, by omega⟩, rfl, (by omega), (iwC_e (k := 0) (iwC_n (by rw [wl_touch, tkC_lt (c := 1) (by decide) (by decide)]; omega)) (fun q => by exfalso; omega) (by omega) (by omega))⟩ dX6_isWord_32
  · refine z_aload_n F dX6_isWord_7 rfl (q := 0) rfl ?_
    refine gf_X6_48 F hI gs_18 rfl bd_18_7 dX6_isWord_8 (fun v10 ev10 av10 bv10 => ?_)
    have zv10 : u6 = v10 := eu6.trans ev10.symm
    subst zv10
    refine z_iconst F dX6_isWord_11 ?_
    refine z_icmp_ne (tgt := 31) F dX6_isWord_12 (by decide +kernel) (by omega) (by omega) (fun c11 => ?_) (fun c11 => ?_)
    · refine z_iconst F dX6_isWord_31 ?_
      exact hret _ _ 32 _ ⟨by omega, by omega⟩ ⟨hI, hW⟩ ⟨⟨by omega, by omega⟩, rfl, (by omega), (iwC_e (k := 0) (iwC_n (by rw [wl_touch, tkC_lt (c := 1) (by decide) (by decide)]; omega)) (fun q => by exfalso; omega) (by omega) (by omega))⟩ dX6_isWord_32
    · refine z_aload_n F dX6_isWord_15 rfl (q := 0) rfl ?_
      refine gf_X6_33 F hI gs_18 rfl bd_18_5 dX6_isWord_16 (fun v12 ev12 av12 bv12 => ?_)
      have zv12 : u4 = v12 := eu4.trans ev12.symm
      subst zv12
      refine z_aload_n F dX6_isWord_19 rfl (q := 0) rfl ?_
      refine gf_X6_57 F hI gs_18 rfl bd_18_6 dX6_isWord_20 (fun v13 ev13 av13 bv13 => ?_)
      have zv13 : u5 = v13 := eu5.trans ev13.symm
      subst zv13
      refine z_isub F dX6_isWord_23 ?_
      refine z_aload_n F dX6_isWord_24 rfl (q := 1) rfl ?_
      refine zvs_i (i := 3) (rest := [ii (u4 - u5)]) F (kS_len l M ⟨hI, hW⟩ 3 (by decide)) cs_X6_75 (by decide) (by decide) (by decide) rfl rfl rfl (Nat.le_of_ble_eq_true rfl) dX6_isWord_25 (fun v14 M9 rv14 hI9 pv14 => ?_)
      obtain ⟨ev14, rfl⟩ := pv14
      obtain rfl : v14 = 5 := ev14.trans (show ((sbyt.getD 3 []).length : Int) = 5 from by decide)
      clear hI9
      refine z_icmp_eq (tgt := 33) F dX6_isWord_28 (by decide +kernel) (by omega) (by omega) (fun c15 => ?_) (fun c15 => ?_)
      · refine z_iconst F dX6_isWord_33 ?_
        refine z_istore_n F dX6_isWord_34 rfl (by decide) (ls' := [(2, ii 0), (0, .ref (ad 18)), (1, .ref (ad 1003))]) rfl ?_
        refine z_loc [1, 2, 0] (ls' := [(0, .ref (ad 18)), (1, .ref (ad 1003)), (2, ii 0)]) rfl ?_
        suffices key35 : ∀ (n : Nat) (y17 : Int), 0 ≤ y17 → y17 ≤ 5 → (Iw_C M w_touch 1 y17) → 5 - y17 < (n : Int) → Z D cy ad p l e (RMh 5) s m args below meth c A 3 0 0 Q 35 [(0, .ref (ad 18)), (1, .ref (ad 1003)), (2, ii y17)] [] M from key35 6 0 (by omega) (by omega) iwC_0 (by omega)
        intro n35
        induction n35 with
        | zero => intro y17 ay17 by17 i35_0 hn35; exfalso; omega
        | succ n35 ih35 =>
          intro y17 ay17 by17 i35_0 hn35
          refine z_iload_n F dX6_isWord_35 rfl (q := 2) rfl ?_
          refine z_aload_n F dX6_isWord_36 rfl (q := 1) rfl ?_
          refine zvs_i (i := 3) (rest := [ii y17]) F (kS_len l M ⟨hI, hW⟩ 3 (by decide)) cs_X6_75 (by decide) (by decide) (by decide) rfl rfl rfl (Nat.le_of_ble_eq_true rfl) dX6_isWord_37 (fun v18 M9 rv18 hI9 pv18 => ?_)
          obtain ⟨ev18, rfl⟩ := pv18
          obtain rfl : v18 = 5 := ev18.trans (show ((sbyt.getD 3 []).length : Int) = 5 from by decide)
          clear hI9
          refine z_icmp_ge (tgt := 70) F dX6_isWord_40 (by decide +kernel) (by omega) (by omega) (fun c19 => ?_) (fun c19 => ?_)
          · refine z_iconst F dX6_isWord_70 ?_
            exact hret _ _ 71 _ ⟨by omega, by omega⟩ ⟨hI, hW⟩ ⟨⟨by omega, by omega⟩, rfl, (by omega), (iwC_e i35_0 (fun q => by rw [wl_touch, tkC_lt (c := 1) (by decide) (by decide)]; omega) (by omega) (by omega))⟩ dX6_isWord_71
          · refine z_aload_n F dX6_isWord_43 rfl (q := 0) rfl ?_
            refine rf_X6_22 F gs_18 rfl dX6_isWord_44 ?_
            refine z_aload_n F dX6_isWord_47 rfl (q := 0) rfl ?_
            refine gf_X6_57 F hI gs_18 rfl bd_18_6 dX6_isWord_48 (fun v20 ev20 av20 bv20 => ?_)
            have zv20 : u5 = v20 := eu5.trans ev20.symm
            subst zv20
            refine z_iload_n F dX6_isWord_51 rfl (q := 2) rfl ?_
            refine z_iadd F dX6_isWord_52 ?_
            have k21 : 0 ≤ (u5 + y17) ∧ (u5 + y17) ≤ 899 := by omega
            refine z_bald F hI gs_1 (by omega) (by omega) (by decide) bd_1 dX6_isWord_53 (fun v22 (ev22 : v22 = M 1 _) av22 bv22 => ?_)
            refine z_aload_n F dX6_isWord_54 rfl (q := 1) rfl ?_
            refine z_iload_n F dX6_isWord_55 rfl (q := 2) rfl ?_
            refine zvs_i (i := 3) (rest := [ii v22]) F (kS_chr l M ⟨hI, hW⟩ 3 (by decide) y17 (by omega) (show y17 < ((sbyt.getD 3 []).length : Int) from by rw [show ((sbyt.getD 3 []).length : Int) = 5 from by decide]; omega)) cs_X6_78 (by decide) (by decide) (by decide) rfl rfl rfl (Nat.le_of_ble_eq_true rfl) dX6_isWord_56 (fun v23 M9 rv23 hI9 pv23 => ?_)
            obtain ⟨⟨av23, bv23, ev23⟩, rfl⟩ := pv23
            clear hI9
            refine z_icmp_eq (tgt := 64) F dX6_isWord_59 (by decide +kernel) (by omega) (by omega) (fun c24 => ?_) (fun c24 => ?_)
            · refine z_iincN F dX6_isWord_64 (q := 2) rfl (by decide) (fun v25 ev25 => ?_)
              refine z_eq (ls' := [(2, ii v25), (0, .ref (ad 18)), (1, .ref (ad 1003))]) rfl rfl rfl ?_
              refine z_goto (tgt := 35) F dX6_isWord_67 (by decide +kernel) ?_
              refine z_loc [1, 2, 0] (ls' := [(0, .ref (ad 18)), (1, .ref (ad 1003)), (2, ii v25)]) rfl ?_
              exact ih35 v25 (by omega) (by omega) (by rw [show v25 = y17 + 1 from by omega]; exact iwC_s (z' := 1) (c1 := v22 % 256) i35_0 rfl (by omega) (by rw [wl_touch]; omega) (by rw [wl_touch]; omega) (show v22 % 256 = bC M ((M 18 6).toNat + (y17).toNat) from by show _ = M 1 _ % 256; rw [show (M 18 6).toNat + (y17).toNat = ((u5 + y17)).toNat from by omega, ← ev22]) (ev23.trans (sw_3 (y17).toNat (by omega)).1) (by have g9 := (sw_3 (y17).toNat (by omega)).2; omega)) (by omega)
            · refine z_iconst F dX6_isWord_62 ?_
              exact hret _ _ 63 _ ⟨by omega, by omega⟩ ⟨hI, hW⟩ ⟨⟨by omega, by omega⟩, rfl, (by omega), (iwC_e (iwC_s (z' := 0) (c1 := v22 % 256) i35_0 rfl (by omega) (by rw [wl_touch]; omega) (by rw [wl_touch]; omega) (show v22 % 256 = bC M ((M 18 6).toNat + (y17).toNat) from by show _ = M 1 _ % 256; rw [show (M 18 6).toNat + (y17).toNat = ((u5 + y17)).toNat from by omega, ← ev22]) (ev23.trans (sw_3 (y17).toNat (by omega)).1) (by have g9 := (sw_3 (y17).toNat (by omega)).2; omega)) (fun q => by exfalso; omega) (by omega) (by omega))⟩ dX6_isWord_63
      · refine z_iconst F dX6_isWord_31 ?_
        exact hret _ _ 32 _ ⟨by omega, by omega⟩ ⟨hI, hW⟩ ⟨⟨by omega, by omega⟩, rfl, (by omega), (iwC_e (k := 0) (iwC_n (by rw [wl_touch, tkC_lt (c := 1) (by decide) (by decide)]; omega)) (fun q => by exfalso; omega) (by omega) (by omega))⟩ dX6_isWord_32
set_option maxHeartbeats 4000000 in
set_option maxRecDepth 4000 in
theorem kp_X6_isWord_18_1005 (l : Launch) (M : Mem) (hJ : Iw M) (hp0 : M 18 6 ≤ M 18 5 ∧ M 18 5 ≤ M 18 4 ∧ M 18 7 ≤ 4 * (M 18 5 - M 18 6)) : CI l yX6_isWord cX6_isWord 3 (some .boolean) 5 (fun ad => [.ref (ad 18), .ref (ad 1005)]) M (fun z M' => (0 ≤ z ∧ z ≤ 1) ∧ M = M' ∧ (M 18 6 + z ≤ M 18 5 ∧ (z = 1 → M 18 1 = 0)) ∧ (WZ z (isW w_thing (absC M)))) := by
  obtain ⟨hI, hW⟩ := hJ
  refine en_z (by decide +kernel) (fun ad => by exact Nat.le_of_ble_eq_true rfl) (fun D cy ad A p e s m args below meth c Q F hret => ?_)
  refine z_eq (ls' := [(0, .ref (ad 18)), (1, .ref (ad 1005))]) rfl rfl rfl ?_
  obtain ⟨u1, eu1⟩ : ∃ v : Int, v = M 18 1 := ⟨_, rfl⟩
  have ku1 : (-2147483648) ≤ u1 ∧ u1 ≤ 2147483647 := by have := hI.at (show Bd 18 1 = (-2147483648, 2147483647) from rfl); omega
  obtain ⟨u2, eu2⟩ : ∃ v : Int, v = M 18 2 := ⟨_, rfl⟩
  have ku2 : (-2147483648) ≤ u2 ∧ u2 ≤ 2147483647 := by have := hI.at (show Bd 18 2 = (-2147483648, 2147483647) from rfl); omega
  obtain ⟨u3, eu3⟩ : ∃ v : Int, v = M 18 4 := ⟨_, rfl⟩
  have ku3 : 0 ≤ u3 ∧ u3 ≤ 900 := by have := hI.at (show Bd 18 4 = (0, 900) from rfl); omega
  obtain ⟨u4, eu4⟩ : ∃ v : Int, v = M 18 5 := ⟨_, rfl⟩
  have ku4 : 0 ≤ u4 ∧ u4 ≤ 900 := by have := hI.at (show Bd 18 5 = (0, 900) from rfl); omega
  obtain ⟨u5, eu5⟩ : ∃ v : Int, v = M 18 6 := ⟨_, rfl⟩
  have ku5 : 0 ≤ u5 ∧ u5 ≤ 900 := by have := hI.at (show Bd 18 6 = (0, 900) from rfl); omega
  obtain ⟨u6, eu6⟩ : ∃ v : Int, v = M 18 7 := ⟨_, rfl⟩
  have ku6 : 0 ≤ u6 ∧ u6 ≤ 4 := by have := hI.at (show Bd 18 7 = (0, 4) from rfl); omega
  obtain ⟨u7, eu7⟩ : ∃ v : Int, v = M 18 8 := ⟨_, rfl⟩
  have ku7 : (-2147483648) ≤ u7 ∧ u7 ≤ 2147483647 := by have := hI.at (show Bd 18 8 = (-2147483648, 2147483647) from rfl); omega
  refine z_aload_n F dX6_isWord_0 rfl (q := 0) rfl ?_
  refine gf_X6_36 F hI gs_18 rfl bd_18_1 dX6_isWord_1 (fun v8 ev8 av8 bv8 => ?_)
  have zv8 : u1 = v8 := eu1.trans ev8.symm
  subst zv8
  refine z_if_ne (tgt := 31) F dX6_isWord_4 (by decide +kernel) (by omega) (fun c9 => ?_) (fun c9 => ?_)
  · refine z_iconst F dX6_isWord_31 ?_
    exact hret _ _ 32 _ ⟨by omega, by omega⟩ ⟨hI, hW⟩ ⟨⟨by omega, by omega⟩, rfl, (by omega), (iwC_e (k := 0) (iwC_n (by rw [wl_thing, tkC_lt (c := 1) (by decide) (by decide)]; omega)) (fun q => by exfalso; omega) (by omega) (by omega))⟩ dX6_isWord_32
  · refine z_aload_n F dX6_isWord_7 rfl (q := 0) rfl ?_
    refine gf_X6_48 F hI gs_18 rfl bd_18_7 dX6_isWord_8 (fun v10 ev10 av10 bv10 => ?_)
    have zv10 : u6 = v10 := eu6.trans ev10.symm
    subst zv10
    refine z_iconst F dX6_isWord_11 ?_
    refine z_icmp_ne (tgt := 31) F dX6_isWord_12 (by decide +kernel) (by omega) (by omega) (fun c11 => ?_) (fun c11 => ?_)
    · refine z_iconst F dX6_isWord_31 ?_
      exact hret _ _ 32 _ ⟨by omega, by omega⟩ ⟨hI, hW⟩ ⟨⟨by omega, by omega⟩, rfl, (by omega), (iwC_e (k := 0) (iwC_n (by rw [wl_thing, tkC_lt (c := 1) (by decide) (by decide)]; omega)) (fun q => by exfalso; omega) (by omega) (by omega))⟩ dX6_isWord_32
    · refine z_aload_n F dX6_isWord_15 rfl (q := 0) rfl ?_
      refine gf_X6_33 F hI gs_18 rfl bd_18_5 dX6_isWord_16 (fun v12 ev12 av12 bv12 => ?_)
      have zv12 : u4 = v12 := eu4.trans ev12.symm
      subst zv12
      refine z_aload_n F dX6_isWord_19 rfl (q := 0) rfl ?_
      refine gf_X6_57 F hI gs_18 rfl bd_18_6 dX6_isWord_20 (fun v13 ev13 av13 bv13 => ?_)
      have zv13 : u5 = v13 := eu5.trans ev13.symm
      subst zv13
      refine z_isub F dX6_isWord_23 ?_
      refine z_aload_n F dX6_isWord_24 rfl (q := 1) rfl ?_
      refine zvs_i (i := 5) (rest := [ii (u4 - u5)]) F (kS_len l M ⟨hI, hW⟩ 5 (by decide)) cs_X6_75 (by decide) (by decide) (by decide) rfl rfl rfl (Nat.le_of_ble_eq_true rfl) dX6_isWord_25 (fun v14 M9 rv14 hI9 pv14 => ?_)
      obtain ⟨ev14, rfl⟩ := pv14
      obtain rfl : v14 = 5 := ev14.trans (show ((sbyt.getD 5 []).length : Int) = 5 from by decide)
      clear hI9
      refine z_icmp_eq (tgt := 33) F dX6_isWord_28 (by decide +kernel) (by omega) (by omega) (fun c15 => ?_) (fun c15 => ?_)
      · refine z_iconst F dX6_isWord_33 ?_
        refine z_istore_n F dX6_isWord_34 rfl (by decide) (ls' := [(2, ii 0), (0, .ref (ad 18)), (1, .ref (ad 1005))]) rfl ?_
        refine z_loc [1, 2, 0] (ls' := [(0, .ref (ad 18)), (1, .ref (ad 1005)), (2, ii 0)]) rfl ?_
        suffices key35 : ∀ (n : Nat) (y17 : Int), 0 ≤ y17 → y17 ≤ 5 → (Iw_C M w_thing 1 y17) → 5 - y17 < (n : Int) → Z D cy ad p l e (RMh 5) s m args below meth c A 3 0 0 Q 35 [(0, .ref (ad 18)), (1, .ref (ad 1005)), (2, ii y17)] [] M from key35 6 0 (by omega) (by omega) iwC_0 (by omega)
        intro n35
        induction n35 with
        | zero => intro y17 ay17 by17 i35_0 hn35; exfalso; omega
        | succ n35 ih35 =>
          intro y17 ay17 by17 i35_0 hn35
          refine z_iload_n F dX6_isWord_35 rfl (q := 2) rfl ?_
          refine z_aload_n F dX6_isWord_36 rfl (q := 1) rfl ?_
          refine zvs_i (i := 5) (rest := [ii y17]) F (kS_len l M ⟨hI, hW⟩ 5 (by decide)) cs_X6_75 (by decide) (by decide) (by decide) rfl rfl rfl (Nat.le_of_ble_eq_true rfl) dX6_isWord_37 (fun v18 M9 rv18 hI9 pv18 => ?_)
          obtain ⟨ev18, rfl⟩ := pv18
          obtain rfl : v18 = 5 := ev18.trans (show ((sbyt.getD 5 []).length : Int) = 5 from by decide)
          clear hI9
          refine z_icmp_ge (tgt := 70) F dX6_isWord_40 (by decide +kernel) (by omega) (by omega) (fun c19 => ?_) (fun c19 => ?_)
          · refine z_iconst F dX6_isWord_70 ?_
            exact hret _ _ 71 _ ⟨by omega, by omega⟩ ⟨hI, hW⟩ ⟨⟨by omega, by omega⟩, rfl, (by omega), (iwC_e i35_0 (fun q => by rw [wl_thing, tkC_lt (c := 1) (by decide) (by decide)]; omega) (by omega) (by omega))⟩ dX6_isWord_71
          · refine z_aload_n F dX6_isWord_43 rfl (q := 0) rfl ?_
            refine rf_X6_22 F gs_18 rfl dX6_isWord_44 ?_
            refine z_aload_n F dX6_isWord_47 rfl (q := 0) rfl ?_
            refine gf_X6_57 F hI gs_18 rfl bd_18_6 dX6_isWord_48 (fun v20 ev20 av20 bv20 => ?_)
            have zv20 : u5 = v20 := eu5.trans ev20.symm
            subst zv20
            refine z_iload_n F dX6_isWord_51 rfl (q := 2) rfl ?_
            refine z_iadd F dX6_isWord_52 ?_
            have k21 : 0 ≤ (u5 + y17) ∧ (u5 + y17) ≤ 899 := by omega
            refine z_bald F hI gs_1 (by omega) (by omega) (by decide) bd_1 dX6_isWord_53 (fun v22 (ev22 : v22 = M 1 _) av22 bv22 => ?_)
            refine z_aload_n F dX6_isWord_54 rfl (q := 1) rfl ?_
            refine z_iload_n F dX6_isWord_55 rfl (q := 2) rfl ?_
            refine zvs_i (i := 5) (rest := [ii v22]) F (kS_chr l M ⟨hI, hW⟩ 5 (by decide) y17 (by omega) (show y17 < ((sbyt.getD 5 []).length : Int) from by rw [show ((sbyt.getD 5 []).length : Int) = 5 from by decide]; omega)) cs_X6_78 (by decide) (by decide) (by decide) rfl rfl rfl (Nat.le_of_ble_eq_true rfl) dX6_isWord_56 (fun v23 M9 rv23 hI9 pv23 => ?_)
            obtain ⟨⟨av23, bv23, ev23⟩, rfl⟩ := pv23
            clear hI9
            refine z_icmp_eq (tgt := 64) F dX6_isWord_59 (by decide +kernel) (by omega) (by omega) (fun c24 => ?_) (fun c24 => ?_)
            · refine z_iincN F dX6_isWord_64 (q := 2) rfl (by decide) (fun v25 ev25 => ?_)
              refine z_eq (ls' := [(2, ii v25), (0, .ref (ad 18)), (1, .ref (ad 1005))]) rfl rfl rfl ?_
              refine z_goto (tgt := 35) F dX6_isWord_67 (by decide +kernel) ?_
              refine z_loc [1, 2, 0] (ls' := [(0, .ref (ad 18)), (1, .ref (ad 1005)), (2, ii v25)]) rfl ?_
              exact ih35 v25 (by omega) (by omega) (by rw [show v25 = y17 + 1 from by omega]; exact iwC_s (z' := 1) (c1 := v22 % 256) i35_0 rfl (by omega) (by rw [wl_thing]; omega) (by rw [wl_thing]; omega) (show v22 % 256 = bC M ((M 18 6).toNat + (y17).toNat) from by show _ = M 1 _ % 256; rw [show (M 18 6).toNat + (y17).toNat = ((u5 + y17)).toNat from by omega, ← ev22]) (ev23.trans (sw_5 (y17).toNat (by omega)).1) (by have g9 := (sw_5 (y17).toNat (by omega)).2; omega)) (by omega)
            · refine z_iconst F dX6_isWord_62 ?_
              exact hret _ _ 63 _ ⟨by omega, by omega⟩ ⟨hI, hW⟩ ⟨⟨by omega, by omega⟩, rfl, (by omega), (iwC_e (iwC_s (z' := 0) (c1 := v22 % 256) i35_0 rfl (by omega) (by rw [wl_thing]; omega) (by rw [wl_thing]; omega) (show v22 % 256 = bC M ((M 18 6).toNat + (y17).toNat) from by show _ = M 1 _ % 256; rw [show (M 18 6).toNat + (y17).toNat = ((u5 + y17)).toNat from by omega, ← ev22]) (ev23.trans (sw_5 (y17).toNat (by omega)).1) (by have g9 := (sw_5 (y17).toNat (by omega)).2; omega)) (fun q => by exfalso; omega) (by omega) (by omega))⟩ dX6_isWord_63
      · refine z_iconst F dX6_isWord_31 ?_
        exact hret _ _ 32 _ ⟨by omega, by omega⟩ ⟨hI, hW⟩ ⟨⟨by omega, by omega⟩, rfl, (by omega), (iwC_e (k := 0) (iwC_n (by rw [wl_thing, tkC_lt (c := 1) (by decide) (by decide)]; omega)) (fun q => by exfalso; omega) (by omega) (by omega))⟩ dX6_isWord_32
set_option maxHeartbeats 4000000 in
set_option maxRecDepth 4000 in
theorem kp_X6_isWord_18_1010 (l : Launch) (M : Mem) (hJ : Iw M) (hp0 : M 18 6 ≤ M 18 5 ∧ M 18 5 ≤ M 18 4 ∧ M 18 7 ≤ 4 * (M 18 5 - M 18 6)) : CI l yX6_isWord cX6_isWord 3 (some .boolean) 5 (fun ad => [.ref (ad 18), .ref (ad 1010)]) M (fun z M' => (0 ≤ z ∧ z ≤ 1) ∧ M = M' ∧ (M 18 6 + z ≤ M 18 5 ∧ (z = 1 → M 18 1 = 0)) ∧ (WZ z (isW w_event (absC M)))) := by
  obtain ⟨hI, hW⟩ := hJ
  refine en_z (by decide +kernel) (fun ad => by exact Nat.le_of_ble_eq_true rfl) (fun D cy ad A p e s m args below meth c Q F hret => ?_)
  refine z_eq (ls' := [(0, .ref (ad 18)), (1, .ref (ad 1010))]) rfl rfl rfl ?_
  obtain ⟨u1, eu1⟩ : ∃ v : Int, v = M 18 1 := ⟨_, rfl⟩
  have ku1 : (-2147483648) ≤ u1 ∧ u1 ≤ 2147483647 := by have := hI.at (show Bd 18 1 = (-2147483648, 2147483647) from rfl); omega
  obtain ⟨u2, eu2⟩ : ∃ v : Int, v = M 18 2 := ⟨_, rfl⟩
  have ku2 : (-2147483648) ≤ u2 ∧ u2 ≤ 2147483647 := by have := hI.at (show Bd 18 2 = (-2147483648, 2147483647) from rfl); omega
  obtain ⟨u3, eu3⟩ : ∃ v : Int, v = M 18 4 := ⟨_, rfl⟩
  have ku3 : 0 ≤ u3 ∧ u3 ≤ 900 := by have := hI.at (show Bd 18 4 = (0, 900) from rfl); omega
  obtain ⟨u4, eu4⟩ : ∃ v : Int, v = M 18 5 := ⟨_, rfl⟩
  have ku4 : 0 ≤ u4 ∧ u4 ≤ 900 := by have := hI.at (show Bd 18 5 = (0, 900) from rfl); omega
  obtain ⟨u5, eu5⟩ : ∃ v : Int, v = M 18 6 := ⟨_, rfl⟩
  have ku5 : 0 ≤ u5 ∧ u5 ≤ 900 := by have := hI.at (show Bd 18 6 = (0, 900) from rfl); omega
  obtain ⟨u6, eu6⟩ : ∃ v : Int, v = M 18 7 := ⟨_, rfl⟩
  have ku6 : 0 ≤ u6 ∧ u6 ≤ 4 := by have := hI.at (show Bd 18 7 = (0, 4) from rfl); omega
  obtain ⟨u7, eu7⟩ : ∃ v : Int, v = M 18 8 := ⟨_, rfl⟩
  have ku7 : (-2147483648) ≤ u7 ∧ u7 ≤ 2147483647 := by have := hI.at (show Bd 18 8 = (-2147483648, 2147483647) from rfl); omega
  refine z_aload_n F dX6_isWord_0 rfl (q := 0) rfl ?_
  refine gf_X6_36 F hI gs_18 rfl bd_18_1 dX6_isWord_1 (fun v8 ev8 av8 bv8 => ?_)
  have zv8 : u1 = v8 := eu1.trans ev8.symm
  subst zv8
  refine z_if_ne (tgt := 31) F dX6_isWord_4 (by decide +kernel) (by omega) (fun c9 => ?_) (fun c9 => ?_)
  · refine z_iconst F dX6_isWord_31 ?_
    exact hret _ _ 32 _ ⟨by omega, by omega⟩ ⟨hI, hW⟩ ⟨⟨by omega, by omega⟩, rfl, (by omega), (iwC_e (k := 0) (iwC_n (by rw [wl_event, tkC_lt (c := 1) (by decide) (by decide)]; omega)) (fun q => by exfalso; omega) (by omega) (by omega))⟩ dX6_isWord_32
  · refine z_aload_n F dX6_isWord_7 rfl (q := 0) rfl ?_
    refine gf_X6_48 F hI gs_18 rfl bd_18_7 dX6_isWord_8 (fun v10 ev10 av10 bv10 => ?_)
    have zv10 : u6 = v10 := eu6.trans ev10.symm
    subst zv10
    refine z_iconst F dX6_isWord_11 ?_
    refine z_icmp_ne (tgt := 31) F dX6_isWord_12 (by decide +kernel) (by omega) (by omega) (fun c11 => ?_) (fun c11 => ?_)
    · refine z_iconst F dX6_isWord_31 ?_
      exact hret _ _ 32 _ ⟨by omega, by omega⟩ ⟨hI, hW⟩ ⟨⟨by omega, by omega⟩, rfl, (by omega), (iwC_e (k := 0) (iwC_n (by rw [wl_event, tkC_lt (c := 1) (by decide) (by decide)]; omega)) (fun q => by exfalso; omega) (by omega) (by omega))⟩ dX6_isWord_32
    · refine z_aload_n F dX6_isWord_15 rfl (q := 0) rfl ?_
      refine gf_X6_33 F hI gs_18 rfl bd_18_5 dX6_isWord_16 (fun v12 ev12 av12 bv12 => ?_)
      have zv12 : u4 = v12 := eu4.trans ev12.symm
      subst zv12
      refine z_aload_n F dX6_isWord_19 rfl (q := 0) rfl ?_
      refine gf_X6_57 F hI gs_18 rfl bd_18_6 dX6_isWord_20 (fun v13 ev13 av13 bv13 => ?_)
      have zv13 : u5 = v13 := eu5.trans ev13.symm
      subst zv13
      refine z_isub F dX6_isWord_23 ?_
      refine z_aload_n F dX6_isWord_24 rfl (q := 1) rfl ?_
      refine zvs_i (i := 10) (rest := [ii (u4 - u5)]) F (kS_len l M ⟨hI, hW⟩ 10 (by decide)) cs_X6_75 (by decide) (by decide) (by decide) rfl rfl rfl (Nat.le_of_ble_eq_true rfl) dX6_isWord_25 (fun v14 M9 rv14 hI9 pv14 => ?_)
      obtain ⟨ev14, rfl⟩ := pv14
      obtain rfl : v14 = 5 := ev14.trans (show ((sbyt.getD 10 []).length : Int) = 5 from by decide)
      clear hI9
      refine z_icmp_eq (tgt := 33) F dX6_isWord_28 (by decide +kernel) (by omega) (by omega) (fun c15 => ?_) (fun c15 => ?_)
      · refine z_iconst F dX6_isWord_33 ?_
        refine z_istore_n F dX6_isWord_34 rfl (by decide) (ls' := [(2, ii 0), (0, .ref (ad 18)), (1, .ref (ad 1010))]) rfl ?_
        refine z_loc [1, 2, 0] (ls' := [(0, .ref (ad 18)), (1, .ref (ad 1010)), (2, ii 0)]) rfl ?_
        suffices key35 : ∀ (n : Nat) (y17 : Int), 0 ≤ y17 → y17 ≤ 5 → (Iw_C M w_event 1 y17) → 5 - y17 < (n : Int) → Z D cy ad p l e (RMh 5) s m args below meth c A 3 0 0 Q 35 [(0, .ref (ad 18)), (1, .ref (ad 1010)), (2, ii y17)] [] M from key35 6 0 (by omega) (by omega) iwC_0 (by omega)
        intro n35
        induction n35 with
        | zero => intro y17 ay17 by17 i35_0 hn35; exfalso; omega
        | succ n35 ih35 =>
          intro y17 ay17 by17 i35_0 hn35
          refine z_iload_n F dX6_isWord_35 rfl (q := 2) rfl ?_
          refine z_aload_n F dX6_isWord_36 rfl (q := 1) rfl ?_
          refine zvs_i (i := 10) (rest := [ii y17]) F (kS_len l M ⟨hI, hW⟩ 10 (by decide)) cs_X6_75 (by decide) (by decide) (by decide) rfl rfl rfl (Nat.le_of_ble_eq_true rfl) dX6_isWord_37 (fun v18 M9 rv18 hI9 pv18 => ?_)
          obtain ⟨ev18, rfl⟩ := pv18
          obtain rfl : v18 = 5 := ev18.trans (show ((sbyt.getD 10 []).length : Int) = 5 from by decide)
          clear hI9
          refine z_icmp_ge (tgt := 70) F dX6_isWord_40 (by decide +kernel) (by omega) (by omega) (fun c19 => ?_) (fun c19 => ?_)
          · refine z_iconst F dX6_isWord_70 ?_
            exact hret _ _ 71 _ ⟨by omega, by omega⟩ ⟨hI, hW⟩ ⟨⟨by omega, by omega⟩, rfl, (by omega), (iwC_e i35_0 (fun q => by rw [wl_event, tkC_lt (c := 1) (by decide) (by decide)]; omega) (by omega) (by omega))⟩ dX6_isWord_71
          · refine z_aload_n F dX6_isWord_43 rfl (q := 0) rfl ?_
            refine rf_X6_22 F gs_18 rfl dX6_isWord_44 ?_
            refine z_aload_n F dX6_isWord_47 rfl (q := 0) rfl ?_
            refine gf_X6_57 F hI gs_18 rfl bd_18_6 dX6_isWord_48 (fun v20 ev20 av20 bv20 => ?_)
            have zv20 : u5 = v20 := eu5.trans ev20.symm
            subst zv20
            refine z_iload_n F dX6_isWord_51 rfl (q := 2) rfl ?_
            refine z_iadd F dX6_isWord_52 ?_
            have k21 : 0 ≤ (u5 + y17) ∧ (u5 + y17) ≤ 899 := by omega
            refine z_bald F hI gs_1 (by omega) (by omega) (by decide) bd_1 dX6_isWord_53 (fun v22 (ev22 : v22 = M 1 _) av22 bv22 => ?_)
            refine z_aload_n F dX6_isWord_54 rfl (q := 1) rfl ?_
            refine z_iload_n F dX6_isWord_55 rfl (q := 2) rfl ?_
            refine zvs_i (i := 10) (rest := [ii v22]) F (kS_chr l M ⟨hI, hW⟩ 10 (by decide) y17 (by omega) (show y17 < ((sbyt.getD 10 []).length : Int) from by rw [show ((sbyt.getD 10 []).length : Int) = 5 from by decide]; omega)) cs_X6_78 (by decide) (by decide) (by decide) rfl rfl rfl (Nat.le_of_ble_eq_true rfl) dX6_isWord_56 (fun v23 M9 rv23 hI9 pv23 => ?_)
            obtain ⟨⟨av23, bv23, ev23⟩, rfl⟩ := pv23
            clear hI9
            refine z_icmp_eq (tgt := 64) F dX6_isWord_59 (by decide +kernel) (by omega) (by omega) (fun c24 => ?_) (fun c24 => ?_)
            · refine z_iincN F dX6_isWord_64 (q := 2) rfl (by decide) (fun v25 ev25 => ?_)
              refine z_eq (ls' := [(2, ii v25), (0, .ref (ad 18)), (1, .ref (ad 1010))]) rfl rfl rfl ?_
              refine z_goto (tgt := 35) F dX6_isWord_67 (by decide +kernel) ?_
              refine z_loc [1, 2, 0] (ls' := [(0, .ref (ad 18)), (1, .ref (ad 1010)), (2, ii v25)]) rfl ?_
              exact ih35 v25 (by omega) (by omega) (by rw [show v25 = y17 + 1 from by omega]; exact iwC_s (z' := 1) (c1 := v22 % 256) i35_0 rfl (by omega) (by rw [wl_event]; omega) (by rw [wl_event]; omega) (show v22 % 256 = bC M ((M 18 6).toNat + (y17).toNat) from by show _ = M 1 _ % 256; rw [show (M 18 6).toNat + (y17).toNat = ((u5 + y17)).toNat from by omega, ← ev22]) (ev23.trans (sw_10 (y17).toNat (by omega)).1) (by have g9 := (sw_10 (y17).toNat (by omega)).2; omega)) (by omega)
            · refine z_iconst F dX6_isWord_62 ?_
              exact hret _ _ 63 _ ⟨by omega, by omega⟩ ⟨hI, hW⟩ ⟨⟨by omega, by omega⟩, rfl, (by omega), (iwC_e (iwC_s (z' := 0) (c1 := v22 % 256) i35_0 rfl (by omega) (by rw [wl_event]; omega) (by rw [wl_event]; omega) (show v22 % 256 = bC M ((M 18 6).toNat + (y17).toNat) from by show _ = M 1 _ % 256; rw [show (M 18 6).toNat + (y17).toNat = ((u5 + y17)).toNat from by omega, ← ev22]) (ev23.trans (sw_10 (y17).toNat (by omega)).1) (by have g9 := (sw_10 (y17).toNat (by omega)).2; omega)) (fun q => by exfalso; omega) (by omega) (by omega))⟩ dX6_isWord_63
      · refine z_iconst F dX6_isWord_31 ?_
        exact hret _ _ 32 _ ⟨by omega, by omega⟩ ⟨hI, hW⟩ ⟨⟨by omega, by omega⟩, rfl, (by omega), (iwC_e (k := 0) (iwC_n (by rw [wl_event, tkC_lt (c := 1) (by decide) (by decide)]; omega)) (fun q => by exfalso; omega) (by omega) (by omega))⟩ dX6_isWord_32
set_option maxHeartbeats 4000000 in
set_option maxRecDepth 4000 in
theorem kp_X6_isWord_18_1013 (l : Launch) (M : Mem) (hJ : Iw M) (hp0 : M 18 6 ≤ M 18 5 ∧ M 18 5 ≤ M 18 4 ∧ M 18 7 ≤ 4 * (M 18 5 - M 18 6)) : CI l yX6_isWord cX6_isWord 3 (some .boolean) 5 (fun ad => [.ref (ad 18), .ref (ad 1013)]) M (fun z M' => (0 ≤ z ∧ z ≤ 1) ∧ M = M' ∧ (M 18 6 + z ≤ M 18 5 ∧ (z = 1 → M 18 1 = 0)) ∧ (WZ z (isW w_zero (absC M)))) := by
  obtain ⟨hI, hW⟩ := hJ
  refine en_z (by decide +kernel) (fun ad => by exact Nat.le_of_ble_eq_true rfl) (fun D cy ad A p e s m args below meth c Q F hret => ?_)
  refine z_eq (ls' := [(0, .ref (ad 18)), (1, .ref (ad 1013))]) rfl rfl rfl ?_
  obtain ⟨u1, eu1⟩ : ∃ v : Int, v = M 18 1 := ⟨_, rfl⟩
  have ku1 : (-2147483648) ≤ u1 ∧ u1 ≤ 2147483647 := by have := hI.at (show Bd 18 1 = (-2147483648, 2147483647) from rfl); omega
  obtain ⟨u2, eu2⟩ : ∃ v : Int, v = M 18 2 := ⟨_, rfl⟩
  have ku2 : (-2147483648) ≤ u2 ∧ u2 ≤ 2147483647 := by have := hI.at (show Bd 18 2 = (-2147483648, 2147483647) from rfl); omega
  obtain ⟨u3, eu3⟩ : ∃ v : Int, v = M 18 4 := ⟨_, rfl⟩
  have ku3 : 0 ≤ u3 ∧ u3 ≤ 900 := by have := hI.at (show Bd 18 4 = (0, 900) from rfl); omega
  obtain ⟨u4, eu4⟩ : ∃ v : Int, v = M 18 5 := ⟨_, rfl⟩
  have ku4 : 0 ≤ u4 ∧ u4 ≤ 900 := by have := hI.at (show Bd 18 5 = (0, 900) from rfl); omega
  obtain ⟨u5, eu5⟩ : ∃ v : Int, v = M 18 6 := ⟨_, rfl⟩
  have ku5 : 0 ≤ u5 ∧ u5 ≤ 900 := by have := hI.at (show Bd 18 6 = (0, 900) from rfl); omega
  obtain ⟨u6, eu6⟩ : ∃ v : Int, v = M 18 7 := ⟨_, rfl⟩
  have ku6 : 0 ≤ u6 ∧ u6 ≤ 4 := by have := hI.at (show Bd 18 7 = (0, 4) from rfl); omega
  obtain ⟨u7, eu7⟩ : ∃ v : Int, v = M 18 8 := ⟨_, rfl⟩
  have ku7 : (-2147483648) ≤ u7 ∧ u7 ≤ 2147483647 := by have := hI.at (show Bd 18 8 = (-2147483648, 2147483647) from rfl); omega
  refine z_aload_n F dX6_isWord_0 rfl (q := 0) rfl ?_
  refine gf_X6_36 F hI gs_18 rfl bd_18_1 dX6_isWord_1 (fun v8 ev8 av8 bv8 => ?_)
  have zv8 : u1 = v8 := eu1.trans ev8.symm
  subst zv8
  refine z_if_ne (tgt := 31) F dX6_isWord_4 (by decide +kernel) (by omega) (fun c9 => ?_) (fun c9 => ?_)
  · refine z_iconst F dX6_isWord_31 ?_
    exact hret _ _ 32 _ ⟨by omega, by omega⟩ ⟨hI, hW⟩ ⟨⟨by omega, by omega⟩, rfl, (by omega), (iwC_e (k := 0) (iwC_n (by rw [wl_zero, tkC_lt (c := 1) (by decide) (by decide)]; omega)) (fun q => by exfalso; omega) (by omega) (by omega))⟩ dX6_isWord_32
  · refine z_aload_n F dX6_isWord_7 rfl (q := 0) rfl ?_
    refine gf_X6_48 F hI gs_18 rfl bd_18_7 dX6_isWord_8 (fun v10 ev10 av10 bv10 => ?_)
    have zv10 : u6 = v10 := eu6.trans ev10.symm
    subst zv10
    refine z_iconst F dX6_isWord_11 ?_
    refine z_icmp_ne (tgt := 31) F dX6_isWord_12 (by decide +kernel) (by omega) (by omega) (fun c11 => ?_) (fun c11 => ?_)
    · refine z_iconst F dX6_isWord_31 ?_
      exact hret _ _ 32 _ ⟨by omega, by omega⟩ ⟨hI, hW⟩ ⟨⟨by omega, by omega⟩, rfl, (by omega), (iwC_e (k := 0) (iwC_n (by rw [wl_zero, tkC_lt (c := 1) (by decide) (by decide)]; omega)) (fun q => by exfalso; omega) (by omega) (by omega))⟩ dX6_isWord_32
    · refine z_aload_n F dX6_isWord_15 rfl (q := 0) rfl ?_
      refine gf_X6_33 F hI gs_18 rfl bd_18_5 dX6_isWord_16 (fun v12 ev12 av12 bv12 => ?_)
      have zv12 : u4 = v12 := eu4.trans ev12.symm
      subst zv12
      refine z_aload_n F dX6_isWord_19 rfl (q := 0) rfl ?_
      refine gf_X6_57 F hI gs_18 rfl bd_18_6 dX6_isWord_20 (fun v13 ev13 av13 bv13 => ?_)
      have zv13 : u5 = v13 := eu5.trans ev13.symm
      subst zv13
      refine z_isub F dX6_isWord_23 ?_
      refine z_aload_n F dX6_isWord_24 rfl (q := 1) rfl ?_
      refine zvs_i (i := 13) (rest := [ii (u4 - u5)]) F (kS_len l M ⟨hI, hW⟩ 13 (by decide)) cs_X6_75 (by decide) (by decide) (by decide) rfl rfl rfl (Nat.le_of_ble_eq_true rfl) dX6_isWord_25 (fun v14 M9 rv14 hI9 pv14 => ?_)
      obtain ⟨ev14, rfl⟩ := pv14
      obtain rfl : v14 = 4 := ev14.trans (show ((sbyt.getD 13 []).length : Int) = 4 from by decide)
      clear hI9
      refine z_icmp_eq (tgt := 33) F dX6_isWord_28 (by decide +kernel) (by omega) (by omega) (fun c15 => ?_) (fun c15 => ?_)
      · refine z_iconst F dX6_isWord_33 ?_
        refine z_istore_n F dX6_isWord_34 rfl (by decide) (ls' := [(2, ii 0), (0, .ref (ad 18)), (1, .ref (ad 1013))]) rfl ?_
        refine z_loc [1, 2, 0] (ls' := [(0, .ref (ad 18)), (1, .ref (ad 1013)), (2, ii 0)]) rfl ?_
        suffices key35 : ∀ (n : Nat) (y17 : Int), 0 ≤ y17 → y17 ≤ 4 → (Iw_C M w_zero 1 y17) → 4 - y17 < (n : Int) → Z D cy ad p l e (RMh 5) s m args below meth c A 3 0 0 Q 35 [(0, .ref (ad 18)), (1, .ref (ad 1013)), (2, ii y17)] [] M from key35 5 0 (by omega) (by omega) iwC_0 (by omega)
        intro n35
        induction n35 with
        | zero => intro y17 ay17 by17 i35_0 hn35; exfalso; omega
        | succ n35 ih35 =>
          intro y17 ay17 by17 i35_0 hn35
          refine z_iload_n F dX6_isWord_35 rfl (q := 2) rfl ?_
          refine z_aload_n F dX6_isWord_36 rfl (q := 1) rfl ?_
          refine zvs_i (i := 13) (rest := [ii y17]) F (kS_len l M ⟨hI, hW⟩ 13 (by decide)) cs_X6_75 (by decide) (by decide) (by decide) rfl rfl rfl (Nat.le_of_ble_eq_true rfl) dX6_isWord_37 (fun v18 M9 rv18 hI9 pv18 => ?_)
          obtain ⟨ev18, rfl⟩ := pv18
          obtain rfl : v18 = 4 := ev18.trans (show ((sbyt.getD 13 []).length : Int) = 4 from by decide)
          clear hI9
          refine z_icmp_ge (tgt := 70) F dX6_isWord_40 (by decide +kernel) (by omega) (by omega) (fun c19 => ?_) (fun c19 => ?_)
          · refine z_iconst F dX6_isWord_70 ?_
            exact hret _ _ 71 _ ⟨by omega, by omega⟩ ⟨hI, hW⟩ ⟨⟨by omega, by omega⟩, rfl, (by omega), (iwC_e i35_0 (fun q => by rw [wl_zero, tkC_lt (c := 1) (by decide) (by decide)]; omega) (by omega) (by omega))⟩ dX6_isWord_71
          · refine z_aload_n F dX6_isWord_43 rfl (q := 0) rfl ?_
            refine rf_X6_22 F gs_18 rfl dX6_isWord_44 ?_
            refine z_aload_n F dX6_isWord_47 rfl (q := 0) rfl ?_
            refine gf_X6_57 F hI gs_18 rfl bd_18_6 dX6_isWord_48 (fun v20 ev20 av20 bv20 => ?_)
            have zv20 : u5 = v20 := eu5.trans ev20.symm
            subst zv20
            refine z_iload_n F dX6_isWord_51 rfl (q := 2) rfl ?_
            refine z_iadd F dX6_isWord_52 ?_
            have k21 : 0 ≤ (u5 + y17) ∧ (u5 + y17) ≤ 899 := by omega
            refine z_bald F hI gs_1 (by omega) (by omega) (by decide) bd_1 dX6_isWord_53 (fun v22 (ev22 : v22 = M 1 _) av22 bv22 => ?_)
            refine z_aload_n F dX6_isWord_54 rfl (q := 1) rfl ?_
            refine z_iload_n F dX6_isWord_55 rfl (q := 2) rfl ?_
            refine zvs_i (i := 13) (rest := [ii v22]) F (kS_chr l M ⟨hI, hW⟩ 13 (by decide) y17 (by omega) (show y17 < ((sbyt.getD 13 []).length : Int) from by rw [show ((sbyt.getD 13 []).length : Int) = 4 from by decide]; omega)) cs_X6_78 (by decide) (by decide) (by decide) rfl rfl rfl (Nat.le_of_ble_eq_true rfl) dX6_isWord_56 (fun v23 M9 rv23 hI9 pv23 => ?_)
            obtain ⟨⟨av23, bv23, ev23⟩, rfl⟩ := pv23
            clear hI9
            refine z_icmp_eq (tgt := 64) F dX6_isWord_59 (by decide +kernel) (by omega) (by omega) (fun c24 => ?_) (fun c24 => ?_)
            · refine z_iincN F dX6_isWord_64 (q := 2) rfl (by decide) (fun v25 ev25 => ?_)
              refine z_eq (ls' := [(2, ii v25), (0, .ref (ad 18)), (1, .ref (ad 1013))]) rfl rfl rfl ?_
              refine z_goto (tgt := 35) F dX6_isWord_67 (by decide +kernel) ?_
              refine z_loc [1, 2, 0] (ls' := [(0, .ref (ad 18)), (1, .ref (ad 1013)), (2, ii v25)]) rfl ?_
              exact ih35 v25 (by omega) (by omega) (by rw [show v25 = y17 + 1 from by omega]; exact iwC_s (z' := 1) (c1 := v22 % 256) i35_0 rfl (by omega) (by rw [wl_zero]; omega) (by rw [wl_zero]; omega) (show v22 % 256 = bC M ((M 18 6).toNat + (y17).toNat) from by show _ = M 1 _ % 256; rw [show (M 18 6).toNat + (y17).toNat = ((u5 + y17)).toNat from by omega, ← ev22]) (ev23.trans (sw_13 (y17).toNat (by omega)).1) (by have g9 := (sw_13 (y17).toNat (by omega)).2; omega)) (by omega)
            · refine z_iconst F dX6_isWord_62 ?_
              exact hret _ _ 63 _ ⟨by omega, by omega⟩ ⟨hI, hW⟩ ⟨⟨by omega, by omega⟩, rfl, (by omega), (iwC_e (iwC_s (z' := 0) (c1 := v22 % 256) i35_0 rfl (by omega) (by rw [wl_zero]; omega) (by rw [wl_zero]; omega) (show v22 % 256 = bC M ((M 18 6).toNat + (y17).toNat) from by show _ = M 1 _ % 256; rw [show (M 18 6).toNat + (y17).toNat = ((u5 + y17)).toNat from by omega, ← ev22]) (ev23.trans (sw_13 (y17).toNat (by omega)).1) (by have g9 := (sw_13 (y17).toNat (by omega)).2; omega)) (fun q => by exfalso; omega) (by omega) (by omega))⟩ dX6_isWord_63
      · refine z_iconst F dX6_isWord_31 ?_
        exact hret _ _ 32 _ ⟨by omega, by omega⟩ ⟨hI, hW⟩ ⟨⟨by omega, by omega⟩, rfl, (by omega), (iwC_e (k := 0) (iwC_n (by rw [wl_zero, tkC_lt (c := 1) (by decide) (by decide)]; omega)) (fun q => by exfalso; omega) (by omega) (by omega))⟩ dX6_isWord_32
set_option maxHeartbeats 4000000 in
set_option maxRecDepth 4000 in
theorem kp_X6_takeWord_18_1013 (l : Launch) (M : Mem) (hJ : Iw M) (hp0 : M 18 6 ≤ M 18 5 ∧ M 18 5 ≤ M 18 4 ∧ M 18 7 ≤ 4 * (M 18 5 - M 18 6)) : CI l yX6_takeWord cX6_takeWord 3 (some .boolean) 7 (fun ad => [.ref (ad 18), .ref (ad 1013)]) M (fun z M' => (0 ≤ z ∧ z ≤ 1) ∧ Fr [18] M M' ∧ (M' 18 4 = M 18 4 ∧ M' 18 6 ≤ M' 18 5 ∧ M' 18 5 ≤ M' 18 4 ∧ M' 18 7 ≤ 4 * (M' 18 5 - M' 18 6) ∧ M 18 6 ≤ M' 18 6 ∧ M' 18 1 = M 18 1 ∧ M 18 6 + z ≤ M' 18 6 ∧ (z = 1 → M 18 1 = 0)) ∧ (WZ z (isW w_zero (absC M)) ∧ tookW w_zero (absC M) = absC M')) := by
  obtain ⟨hI, hW⟩ := hJ
  have hF : Fr [18] M M := Fr.rf
  refine en_z (by decide +kernel) (fun ad => by exact Nat.le_of_ble_eq_true rfl) (fun D cy ad A p e s m args below meth c Q F hret => ?_)
  refine z_eq (ls' := [(0, .ref (ad 18)), (1, .ref (ad 1013))]) rfl rfl rfl ?_
  refine z_aload_n F dX6_takeWord_0 rfl (q := 0) rfl ?_
  refine z_aload_n F dX6_takeWord_1 rfl (q := 1) rfl ?_
  refine zv_i (rest := []) F (kp_X6_isWord_18_1013 l M ⟨hI, hW⟩ (by omega)) cs_X6_86 (T := TX6) (N := 9) (ci := 6) rfl gs_18 (by decide) (by decide) rfl rfl rfl (Nat.le_of_ble_eq_true rfl) dX6_takeWord_2 (fun v1 M2 rv1 hI p3 => ?_)
  obtain ⟨hI, hW⟩ := hI
  obtain ⟨⟨av1, bv1⟩, rfl, xp3, yp3⟩ := p3
  refine z_istore_n F dX6_takeWord_5 rfl (by decide) (ls' := [(2, ii v1), (0, .ref (ad 18)), (1, .ref (ad 1013))]) rfl ?_
  refine z_iload_n F dX6_takeWord_6 rfl (q := 0) rfl ?_
  refine z_if_eq (tgt := 14) F dX6_takeWord_7 (by decide +kernel) (by omega) (fun c4 => ?_) (fun c4 => ?_)
  · refine z_iload_n F dX6_takeWord_14 rfl (q := 0) rfl ?_
    exact hret _ _ 15 _ ⟨by omega, by omega⟩ ⟨hI, hW⟩ ⟨⟨by omega, by omega⟩, hF, (by omega), ⟨yp3, took_f (wz_f yp3 (by omega))⟩⟩ dX6_takeWord_15
  · refine z_aload_n F dX6_takeWord_10 rfl (q := 1) rfl ?_
    refine zv_v (rest := []) F (kp_X6_advance_18 l M ⟨hI, hW⟩ (by omega)) cs_X6_42 (T := TX6) (N := 9) (ci := 6) rfl gs_18 (by decide) (by decide) rfl rfl rfl (Nat.le_of_ble_eq_true rfl) dX6_takeWord_11 (fun M5 hI p6 => ?_)
    obtain ⟨hI, hW⟩ := hI
    obtain ⟨fp6, xp6, yp6⟩ := p6
    have hF := hF.call fp6 (by decide)
    refine z_iload_n F dX6_takeWord_14 rfl (q := 0) rfl ?_
    exact hret _ _ 15 _ ⟨by omega, by omega⟩ ⟨hI, hW⟩ ⟨⟨by omega, by omega⟩, hF, (by omega), ⟨yp3, took_t (wz_t yp3 (by omega)) (yp6 (by omega))⟩⟩ dX6_takeWord_15
set_option maxHeartbeats 4000000 in
set_option maxRecDepth 4000 in
theorem kp_X6_isWord_18_1018 (l : Launch) (M : Mem) (hJ : Iw M) (hp0 : M 18 6 ≤ M 18 5 ∧ M 18 5 ≤ M 18 4 ∧ M 18 7 ≤ 4 * (M 18 5 - M 18 6)) : CI l yX6_isWord cX6_isWord 3 (some .boolean) 5 (fun ad => [.ref (ad 18), .ref (ad 1018)]) M (fun z M' => (0 ≤ z ∧ z ≤ 1) ∧ M = M' ∧ (M 18 6 + z ≤ M 18 5 ∧ (z = 1 → M 18 1 = 0)) ∧ (WZ z (isW w_law (absC M)))) := by
  obtain ⟨hI, hW⟩ := hJ
  refine en_z (by decide +kernel) (fun ad => by exact Nat.le_of_ble_eq_true rfl) (fun D cy ad A p e s m args below meth c Q F hret => ?_)
  refine z_eq (ls' := [(0, .ref (ad 18)), (1, .ref (ad 1018))]) rfl rfl rfl ?_
  obtain ⟨u1, eu1⟩ : ∃ v : Int, v = M 18 1 := ⟨_, rfl⟩
  have ku1 : (-2147483648) ≤ u1 ∧ u1 ≤ 2147483647 := by have := hI.at (show Bd 18 1 = (-2147483648, 2147483647) from rfl); omega
  obtain ⟨u2, eu2⟩ : ∃ v : Int, v = M 18 2 := ⟨_, rfl⟩
  have ku2 : (-2147483648) ≤ u2 ∧ u2 ≤ 2147483647 := by have := hI.at (show Bd 18 2 = (-2147483648, 2147483647) from rfl); omega
  obtain ⟨u3, eu3⟩ : ∃ v : Int, v = M 18 4 := ⟨_, rfl⟩
  have ku3 : 0 ≤ u3 ∧ u3 ≤ 900 := by have := hI.at (show Bd 18 4 = (0, 900) from rfl); omega
  obtain ⟨u4, eu4⟩ : ∃ v : Int, v = M 18 5 := ⟨_, rfl⟩
  have ku4 : 0 ≤ u4 ∧ u4 ≤ 900 := by have := hI.at (show Bd 18 5 = (0, 900) from rfl); omega
  obtain ⟨u5, eu5⟩ : ∃ v : Int, v = M 18 6 := ⟨_, rfl⟩
  have ku5 : 0 ≤ u5 ∧ u5 ≤ 900 := by have := hI.at (show Bd 18 6 = (0, 900) from rfl); omega
  obtain ⟨u6, eu6⟩ : ∃ v : Int, v = M 18 7 := ⟨_, rfl⟩
  have ku6 : 0 ≤ u6 ∧ u6 ≤ 4 := by have := hI.at (show Bd 18 7 = (0, 4) from rfl); omega
  obtain ⟨u7, eu7⟩ : ∃ v : Int, v = M 18 8 := ⟨_, rfl⟩
  have ku7 : (-2147483648) ≤ u7 ∧ u7 ≤ 2147483647 := by have := hI.at (show Bd 18 8 = (-2147483648, 2147483647) from rfl); omega
  refine z_aload_n F dX6_isWord_0 rfl (q := 0) rfl ?_
  refine gf_X6_36 F hI gs_18 rfl bd_18_1 dX6_isWord_1 (fun v8 ev8 av8 bv8 => ?_)
  have zv8 : u1 = v8 := eu1.trans ev8.symm
  subst zv8
  refine z_if_ne (tgt := 31) F dX6_isWord_4 (by decide +kernel) (by omega) (fun c9 => ?_) (fun c9 => ?_)
  · refine z_iconst F dX6_isWord_31 ?_
    exact hret _ _ 32 _ ⟨by omega, by omega⟩ ⟨hI, hW⟩ ⟨⟨by omega, by omega⟩, rfl, (by omega), (iwC_e (k := 0) (iwC_n (by rw [wl_law, tkC_lt (c := 1) (by decide) (by decide)]; omega)) (fun q => by exfalso; omega) (by omega) (by omega))⟩ dX6_isWord_32
  · refine z_aload_n F dX6_isWord_7 rfl (q := 0) rfl ?_
    refine gf_X6_48 F hI gs_18 rfl bd_18_7 dX6_isWord_8 (fun v10 ev10 av10 bv10 => ?_)
    have zv10 : u6 = v10 := eu6.trans ev10.symm
    subst zv10
    refine z_iconst F dX6_isWord_11 ?_
    refine z_icmp_ne (tgt := 31) F dX6_isWord_12 (by decide +kernel) (by omega) (by omega) (fun c11 => ?_) (fun c11 => ?_)
    · refine z_iconst F dX6_isWord_31 ?_
      exact hret _ _ 32 _ ⟨by omega, by omega⟩ ⟨hI, hW⟩ ⟨⟨by omega, by omega⟩, rfl, (by omega), (iwC_e (k := 0) (iwC_n (by rw [wl_law, tkC_lt (c := 1) (by decide) (by decide)]; omega)) (fun q => by exfalso; omega) (by omega) (by omega))⟩ dX6_isWord_32
    · refine z_aload_n F dX6_isWord_15 rfl (q := 0) rfl ?_
      refine gf_X6_33 F hI gs_18 rfl bd_18_5 dX6_isWord_16 (fun v12 ev12 av12 bv12 => ?_)
      have zv12 : u4 = v12 := eu4.trans ev12.symm
      subst zv12
      refine z_aload_n F dX6_isWord_19 rfl (q := 0) rfl ?_
      refine gf_X6_57 F hI gs_18 rfl bd_18_6 dX6_isWord_20 (fun v13 ev13 av13 bv13 => ?_)
      have zv13 : u5 = v13 := eu5.trans ev13.symm
      subst zv13
      refine z_isub F dX6_isWord_23 ?_
      refine z_aload_n F dX6_isWord_24 rfl (q := 1) rfl ?_
      refine zvs_i (i := 18) (rest := [ii (u4 - u5)]) F (kS_len l M ⟨hI, hW⟩ 18 (by decide)) cs_X6_75 (by decide) (by decide) (by decide) rfl rfl rfl (Nat.le_of_ble_eq_true rfl) dX6_isWord_25 (fun v14 M9 rv14 hI9 pv14 => ?_)
      obtain ⟨ev14, rfl⟩ := pv14
      obtain rfl : v14 = 3 := ev14.trans (show ((sbyt.getD 18 []).length : Int) = 3 from by decide)
      clear hI9
      refine z_icmp_eq (tgt := 33) F dX6_isWord_28 (by decide +kernel) (by omega) (by omega) (fun c15 => ?_) (fun c15 => ?_)
      · refine z_iconst F dX6_isWord_33 ?_
        refine z_istore_n F dX6_isWord_34 rfl (by decide) (ls' := [(2, ii 0), (0, .ref (ad 18)), (1, .ref (ad 1018))]) rfl ?_
        refine z_loc [1, 2, 0] (ls' := [(0, .ref (ad 18)), (1, .ref (ad 1018)), (2, ii 0)]) rfl ?_
        suffices key35 : ∀ (n : Nat) (y17 : Int), 0 ≤ y17 → y17 ≤ 3 → (Iw_C M w_law 1 y17) → 3 - y17 < (n : Int) → Z D cy ad p l e (RMh 5) s m args below meth c A 3 0 0 Q 35 [(0, .ref (ad 18)), (1, .ref (ad 1018)), (2, ii y17)] [] M from key35 4 0 (by omega) (by omega) iwC_0 (by omega)
        intro n35
        induction n35 with
        | zero => intro y17 ay17 by17 i35_0 hn35; exfalso; omega
        | succ n35 ih35 =>
          intro y17 ay17 by17 i35_0 hn35
          refine z_iload_n F dX6_isWord_35 rfl (q := 2) rfl ?_
          refine z_aload_n F dX6_isWord_36 rfl (q := 1) rfl ?_
          refine zvs_i (i := 18) (rest := [ii y17]) F (kS_len l M ⟨hI, hW⟩ 18 (by decide)) cs_X6_75 (by decide) (by decide) (by decide) rfl rfl rfl (Nat.le_of_ble_eq_true rfl) dX6_isWord_37 (fun v18 M9 rv18 hI9 pv18 => ?_)
          obtain ⟨ev18, rfl⟩ := pv18
          obtain rfl : v18 = 3 := ev18.trans (show ((sbyt.getD 18 []).length : Int) = 3 from by decide)
          clear hI9
          refine z_icmp_ge (tgt := 70) F dX6_isWord_40 (by decide +kernel) (by omega) (by omega) (fun c19 => ?_) (fun c19 => ?_)
          · refine z_iconst F dX6_isWord_70 ?_
            exact hret _ _ 71 _ ⟨by omega, by omega⟩ ⟨hI, hW⟩ ⟨⟨by omega, by omega⟩, rfl, (by omega), (iwC_e i35_0 (fun q => by rw [wl_law, tkC_lt (c := 1) (by decide) (by decide)]; omega) (by omega) (by omega))⟩ dX6_isWord_71
          · refine z_aload_n F dX6_isWord_43 rfl (q := 0) rfl ?_
            refine rf_X6_22 F gs_18 rfl dX6_isWord_44 ?_
            refine z_aload_n F dX6_isWord_47 rfl (q := 0) rfl ?_
            refine gf_X6_57 F hI gs_18 rfl bd_18_6 dX6_isWord_48 (fun v20 ev20 av20 bv20 => ?_)
            have zv20 : u5 = v20 := eu5.trans ev20.symm
            subst zv20
            refine z_iload_n F dX6_isWord_51 rfl (q := 2) rfl ?_
            refine z_iadd F dX6_isWord_52 ?_
            have k21 : 0 ≤ (u5 + y17) ∧ (u5 + y17) ≤ 899 := by omega
            refine z_bald F hI gs_1 (by omega) (by omega) (by decide) bd_1 dX6_isWord_53 (fun v22 (ev22 : v22 = M 1 _) av22 bv22 => ?_)
            refine z_aload_n F dX6_isWord_54 rfl (q := 1) rfl ?_
            refine z_iload_n F dX6_isWord_55 rfl (q := 2) rfl ?_
            refine zvs_i (i := 18) (rest := [ii v22]) F (kS_chr l M ⟨hI, hW⟩ 18 (by decide) y17 (by omega) (show y17 < ((sbyt.getD 18 []).length : Int) from by rw [show ((sbyt.getD 18 []).length : Int) = 3 from by decide]; omega)) cs_X6_78 (by decide) (by decide) (by decide) rfl rfl rfl (Nat.le_of_ble_eq_true rfl) dX6_isWord_56 (fun v23 M9 rv23 hI9 pv23 => ?_)
            obtain ⟨⟨av23, bv23, ev23⟩, rfl⟩ := pv23
            clear hI9
            refine z_icmp_eq (tgt := 64) F dX6_isWord_59 (by decide +kernel) (by omega) (by omega) (fun c24 => ?_) (fun c24 => ?_)
            · refine z_iincN F dX6_isWord_64 (q := 2) rfl (by decide) (fun v25 ev25 => ?_)
              refine z_eq (ls' := [(2, ii v25), (0, .ref (ad 18)), (1, .ref (ad 1018))]) rfl rfl rfl ?_
              refine z_goto (tgt := 35) F dX6_isWord_67 (by decide +kernel) ?_
              refine z_loc [1, 2, 0] (ls' := [(0, .ref (ad 18)), (1, .ref (ad 1018)), (2, ii v25)]) rfl ?_
              exact ih35 v25 (by omega) (by omega) (by rw [show v25 = y17 + 1 from by omega]; exact iwC_s (z' := 1) (c1 := v22 % 256) i35_0 rfl (by omega) (by rw [wl_law]; omega) (by rw [wl_law]; omega) (show v22 % 256 = bC M ((M 18 6).toNat + (y17).toNat) from by show _ = M 1 _ % 256; rw [show (M 18 6).toNat + (y17).toNat = ((u5 + y17)).toNat from by omega, ← ev22]) (ev23.trans (sw_18 (y17).toNat (by omega)).1) (by have g9 := (sw_18 (y17).toNat (by omega)).2; omega)) (by omega)
            · refine z_iconst F dX6_isWord_62 ?_
              exact hret _ _ 63 _ ⟨by omega, by omega⟩ ⟨hI, hW⟩ ⟨⟨by omega, by omega⟩, rfl, (by omega), (iwC_e (iwC_s (z' := 0) (c1 := v22 % 256) i35_0 rfl (by omega) (by rw [wl_law]; omega) (by rw [wl_law]; omega) (show v22 % 256 = bC M ((M 18 6).toNat + (y17).toNat) from by show _ = M 1 _ % 256; rw [show (M 18 6).toNat + (y17).toNat = ((u5 + y17)).toNat from by omega, ← ev22]) (ev23.trans (sw_18 (y17).toNat (by omega)).1) (by have g9 := (sw_18 (y17).toNat (by omega)).2; omega)) (fun q => by exfalso; omega) (by omega) (by omega))⟩ dX6_isWord_63
      · refine z_iconst F dX6_isWord_31 ?_
        exact hret _ _ 32 _ ⟨by omega, by omega⟩ ⟨hI, hW⟩ ⟨⟨by omega, by omega⟩, rfl, (by omega), (iwC_e (k := 0) (iwC_n (by rw [wl_law, tkC_lt (c := 1) (by decide) (by decide)]; omega)) (fun q => by exfalso; omega) (by omega) (by omega))⟩ dX6_isWord_32
set_option maxHeartbeats 4000000 in
set_option maxRecDepth 4000 in
theorem kp_X6_takeWord_18_1018 (l : Launch) (M : Mem) (hJ : Iw M) (hp0 : M 18 6 ≤ M 18 5 ∧ M 18 5 ≤ M 18 4 ∧ M 18 7 ≤ 4 * (M 18 5 - M 18 6)) : CI l yX6_takeWord cX6_takeWord 3 (some .boolean) 7 (fun ad => [.ref (ad 18), .ref (ad 1018)]) M (fun z M' => (0 ≤ z ∧ z ≤ 1) ∧ Fr [18] M M' ∧ (M' 18 4 = M 18 4 ∧ M' 18 6 ≤ M' 18 5 ∧ M' 18 5 ≤ M' 18 4 ∧ M' 18 7 ≤ 4 * (M' 18 5 - M' 18 6) ∧ M 18 6 ≤ M' 18 6 ∧ M' 18 1 = M 18 1 ∧ M 18 6 + z ≤ M' 18 6 ∧ (z = 1 → M 18 1 = 0)) ∧ (WZ z (isW w_law (absC M)) ∧ tookW w_law (absC M) = absC M')) := by
  obtain ⟨hI, hW⟩ := hJ
  have hF : Fr [18] M M := Fr.rf
  refine en_z (by decide +kernel) (fun ad => by exact Nat.le_of_ble_eq_true rfl) (fun D cy ad A p e s m args below meth c Q F hret => ?_)
  refine z_eq (ls' := [(0, .ref (ad 18)), (1, .ref (ad 1018))]) rfl rfl rfl ?_
  refine z_aload_n F dX6_takeWord_0 rfl (q := 0) rfl ?_
  refine z_aload_n F dX6_takeWord_1 rfl (q := 1) rfl ?_
  refine zv_i (rest := []) F (kp_X6_isWord_18_1018 l M ⟨hI, hW⟩ (by omega)) cs_X6_86 (T := TX6) (N := 9) (ci := 6) rfl gs_18 (by decide) (by decide) rfl rfl rfl (Nat.le_of_ble_eq_true rfl) dX6_takeWord_2 (fun v1 M2 rv1 hI p3 => ?_)
  obtain ⟨hI, hW⟩ := hI
  obtain ⟨⟨av1, bv1⟩, rfl, xp3, yp3⟩ := p3
  refine z_istore_n F dX6_takeWord_5 rfl (by decide) (ls' := [(2, ii v1), (0, .ref (ad 18)), (1, .ref (ad 1018))]) rfl ?_
  refine z_iload_n F dX6_takeWord_6 rfl (q := 0) rfl ?_
  refine z_if_eq (tgt := 14) F dX6_takeWord_7 (by decide +kernel) (by omega) (fun c4 => ?_) (fun c4 => ?_)
  · refine z_iload_n F dX6_takeWord_14 rfl (q := 0) rfl ?_
    exact hret _ _ 15 _ ⟨by omega, by omega⟩ ⟨hI, hW⟩ ⟨⟨by omega, by omega⟩, hF, (by omega), ⟨yp3, took_f (wz_f yp3 (by omega))⟩⟩ dX6_takeWord_15
  · refine z_aload_n F dX6_takeWord_10 rfl (q := 1) rfl ?_
    refine zv_v (rest := []) F (kp_X6_advance_18 l M ⟨hI, hW⟩ (by omega)) cs_X6_42 (T := TX6) (N := 9) (ci := 6) rfl gs_18 (by decide) (by decide) rfl rfl rfl (Nat.le_of_ble_eq_true rfl) dX6_takeWord_11 (fun M5 hI p6 => ?_)
    obtain ⟨hI, hW⟩ := hI
    obtain ⟨fp6, xp6, yp6⟩ := p6
    have hF := hF.call fp6 (by decide)
    refine z_iload_n F dX6_takeWord_14 rfl (q := 0) rfl ?_
    exact hret _ _ 15 _ ⟨by omega, by omega⟩ ⟨hI, hW⟩ ⟨⟨by omega, by omega⟩, hF, (by omega), ⟨yp3, took_t (wz_t yp3 (by omega)) (yp6 (by omega))⟩⟩ dX6_takeWord_15
set_option maxHeartbeats 4000000 in
set_option maxRecDepth 4000 in
theorem kp_X6_endLine_18 (l : Launch) (M : Mem) (hJ : Iw M) (hp0 : M 18 6 ≤ M 18 5 ∧ M 18 5 ≤ M 18 4 ∧ M 18 7 ≤ 4 * (M 18 5 - M 18 6)) : CV l yX6_endLine cX6_endLine 1 none 8 (fun ad => [.ref (ad 18)]) M (fun M' => Fr [18, 19] M M' ∧ (M' 18 4 = M 18 4 ∧ M' 18 6 ≤ M' 18 5 ∧ M' 18 5 ≤ M' 18 4 ∧ M' 18 7 ≤ 4 * (M' 18 5 - M' 18 6) ∧ M 18 6 ≤ M' 18 6 ∧ (M' 18 1 = 0 → M 18 1 = 0 ∧ M 18 6 < M' 18 6)) ∧ (tC M' = stopF (tC M))) := by
  obtain ⟨hI, hW⟩ := hJ
  have hF : Fr [18, 19] M M := Fr.rf
  refine en_v (by decide +kernel) (fun ad => by exact Nat.le_of_ble_eq_true rfl) (fun D cy ad A p e s m args below meth c Q F hret => ?_)
  refine z_eq (ls' := [(0, .ref (ad 18))]) rfl rfl rfl ?_
  refine z_aload_n F dX6_endLine_0 rfl (q := 0) rfl ?_
  refine z_bipush F dX6_endLine_1 (by decide +kernel) ?_
  refine zv_v (rest := []) F (kp_X6_needSign_18 l M ⟨hI, hW⟩ 59 (by omega) (by omega) (by omega)) cs_X6_120 (T := TX6) (N := 9) (ci := 6) rfl gs_18 (by decide) (by decide) rfl rfl rfl (Nat.le_of_ble_eq_true rfl) dX6_endLine_3 (fun M1 hI p2 => ?_)
  obtain ⟨hI, hW⟩ := hI
  obtain ⟨fp2, xp2, yp2⟩ := p2
  have hF := hF.call fp2 (by decide)
  refine z_aload_n F dX6_endLine_6 rfl (q := 0) rfl ?_
  refine rf_X6_12 F gs_18 rfl dX6_endLine_7 ?_
  refine z_dup F dX6_endLine_10 rfl ?_
  refine gf_X6_124 F hI gs_19 rfl bd_19_0 dX6_endLine_11 (fun v3 ev3 av3 bv3 => ?_)
  refine z_iconst F dX6_endLine_14 ?_
  refine z_iadd F dX6_endLine_15 ?_
  refine z_wrap (fun v4 rv4 wv4 => ?_)
  refine pf_X6_124 F hI gs_19 rfl bd_19_0 rfl rfl dX6_endLine_16 (by omega) (by omega) (fun M6 hI sf5 f5 => ?_)
  have tM6_18_1 : M6 18 1 = M1 18 1 := f5 18 1 (fun q => absurd q.1 (by decide))
  have tM6_18_4 : M6 18 4 = M1 18 4 := f5 18 4 (fun q => absurd q.1 (by decide))
  have tM6_18_5 : M6 18 5 = M1 18 5 := f5 18 5 (fun q => absurd q.1 (by decide))
  have tM6_18_6 : M6 18 6 = M1 18 6 := f5 18 6 (fun q => absurd q.1 (by decide))
  have tM6_18_7 : M6 18 7 = M1 18 7 := f5 18 7 (fun q => absurd q.1 (by decide))
  have hF := hF.wr f5 (by decide) (by decide)
  have hW : WFk M6 := hW.site f5 (by decide)
  exact hret _ 19 _ ⟨hI, hW⟩ ⟨hF, (by omega), (stop_i (by rw [tC_1, yp2]; exact (absC_eq (fun j => (f5 18 j (fun q => absurd q.1 (by decide)))) (fun j => (f5 1 j (fun q => absurd q.1 (by decide)))) : absC M6 = absC M1).symm) (fun q => by have g9 := (vC_fl M6).symm.trans q; rw [tC_2 (show M 18 1 = 0 by omega), ← (show dC M1 = dC M from dC_fr fp2 (by decide))]; exact dC_stop (sf5.trans (by rw [wr_eq rv4 wv4.2, ← ev3])) f5))⟩ dX6_endLine_19
set_option maxRecDepth 4000 in
theorem k_X2_strike_31 (l : Launch) (M : Mem) (hJ : Iw M) : CV l yX2_strike cX2_strike 1 none 1 (fun ad => [.ref (ad 31)]) M (fun M' => Fr [31] M M') := by
  obtain ⟨hI, hW⟩ := hJ
  have hF : Fr [31] M M := Fr.rf
  refine en_v (by decide +kernel) (fun ad => by exact Nat.le_of_ble_eq_true rfl) (fun D cy ad A p e s m args below meth c Q F hret => ?_)
  refine z_eq (ls' := [(0, .ref (ad 31))]) rfl rfl rfl ?_
  refine z_aload_n F dX2_strike_0 rfl (q := 0) rfl ?_
  refine z_iconst F dX2_strike_1 ?_
  refine pf_X2_25 F hI gs_31 rfl bd_31_1 rfl rfl dX2_strike_2 (by omega) (by omega) (fun M2 hI sf1 f1 => ?_)
  have hF := hF.wr f1 (by decide) (by decide)
  have hW : WFk M2 := hW.site f1 (by decide)
  exact hret _ 5 _ ⟨hI, hW⟩ hF dX2_strike_5
