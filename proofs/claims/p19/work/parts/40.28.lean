
set_option maxHeartbeats 4000000 in
set_option maxRecDepth 4000 in
theorem kp_X6_isWord_18_1014 (l : Launch) (M : Mem) (hJ : Iw M) (hp0 : M 18 6 ≤ M 18 5 ∧ M 18 5 ≤ M 18 4 ∧ M 18 7 ≤ 4 * (M 18 5 - M 18 6)) : CI l yX6_isWord cX6_isWord 3 (some .boolean) 5 (fun ad => [.ref (ad 18), .ref (ad 1014)]) M (fun z M' => (0 ≤ z ∧ z ≤ 1) ∧ M = M' ∧ (M 18 6 + z ≤ M 18 5 ∧ (z = 1 → M 18 1 = 0)) ∧ (WZ z (isW w_even (absC M)))) := by
  obtain ⟨hI, hW⟩ := hJ
  refine en_z (by decide +kernel) (fun ad => by exact Nat.le_of_ble_eq_true rfl) (fun D cy ad A p e s m args below meth c Q F hret => ?_)
  refine z_eq (ls' := [(0, .ref (ad 18)), (1, .ref (ad 1014))]) rfl rfl rfl ?_
  obtain ⟨u1, eu1⟩ : ∃ v : Int, v = M 18 1 := ⟨_, rfl⟩
  have ku1 : (-2147483648) ≤ u1 ∧ u1 ≤ 2147483647 := by have := hI.at (show Bd 18 1 = (-2147483648, 2147483647) from rfl); omega
  obtain ⟨u2, eu2⟩ : ∃ v : Int, v = M 18 2 := ⟨_, rfl⟩
  have ku2 : (-2147483648) ≤ u2 ∧ u2 ≤ 2147483647 := by have := hI.at (show Bd 18 2 = (-2147483648, 2147483647) from rfl); omega
  obtain ⟨u3, eu3⟩ : ∃ v : Int, v = M 18 4 := ⟨_, rfl⟩
  have ku3 : 0 ≤ u3 ∧ u3 ≤ 900 := by have := hI.at (show Bd 18 4 = (0, 900) from rfl); omega
  obtain ⟨u4, eu4⟩ : ∃ v : Int, v = M 18 5 := ⟨_, rfl⟩
  have ku4 : 0 ≤ u4 ∧ u4 ≤ 900 := by have := hI.at (show Bd 18 5 = (0, 900) from rfl); omega
  obtain ⟨u5, eu5⟩ : ∃ v : Int, v = M 18 6 := ⟨_, rfl⟩
  have ku5 : 0 ≤ u5 ∧ u5 ≤ 900 := by have := hI.at (show Bd 18 6 = (0, 900) from rfl); omega
  obtain ⟨u6, eu6⟩ : ∃ v : Int, v = M 18 7 := ⟨_, rfl⟩
  have ku6 : 0 ≤ u6 ∧ u6 ≤ 4 := by have := hI.at (show Bd 18 7 = (0, 4) from rfl); omega
  obtain ⟨u7, eu7⟩ : ∃ v : Int, v = M 18 8 := ⟨_, rfl⟩
  have ku7 : (-2147483648) ≤ u7 ∧ u7 ≤ 2147483647 := by have := hI.at (show Bd 18 8 = (-2147483648, 2147483647) from rfl); omega
  refine z_aload_n F dX6_isWord_0 rfl (q := 0) rfl ?_
  refine gf_X6_36 F hI gs_18 rfl bd_18_1 dX6_isWord_1 (fun v8 ev8 av8 bv8 => ?_)
  have zv8 : u1 = v8 := eu1.trans ev8.symm
  subst zv8
  refine z_if_ne (tgt := 31) F dX6_isWord_4 (by decide +kernel) (by omega) (fun c9 => ?_) (fun c9 => ?_)
  · refine z_iconst F dX6_isWord_31 ?_
    exact hret _ _ 32 _ ⟨by omega, by omega⟩ ⟨hI, hW⟩ ⟨⟨by omega, by omega⟩, rfl, (by omega), (iwC_e (k := 0) (iwC_n (by rw [wl_even, tkC_lt (c := 1) (by decide) (by decide)]; omega)) (fun q => by exfalso; omega) (by omega) (by omega))⟩ dX6_isWord_32
  · refine z_aload_n F dX6_isWord_7 rfl (q := 0) rfl ?_
    refine gf_X6_48 F hI gs_18 rfl bd_18_7 dX6_isWord_8 (fun v10 ev10 av10 bv10 => ?_)
    have zv10 : u6 = v10 := eu6.trans ev10.symm
    subst zv10
    refine z_iconst F dX6_isWord_11 ?_
    refine z_icmp_ne (tgt := 31) F dX6_isWord_12 (by decide +kernel) (by omega) (by omega) (fun c11 => ?_) (fun c11 => ?_)
    · refine z_iconst F dX6_isWord_31 ?_
      exact hret _ _ 32 _ ⟨by omega, by omega⟩ ⟨hI, hW⟩ ⟨⟨by omega, by omega⟩, rfl, (by omega), (iwC_e (k := 0) (iwC_n (by rw [wl_even, tkC_lt (c := 1) (by decide) (by decide)]; omega)) (fun q => by exfalso; omega) (by omega) (by omega))⟩ dX6_isWord_32
    · refine z_aload_n F dX6_isWord_15 rfl (q := 0) rfl ?_
      refine gf_X6_33 F hI gs_18 rfl bd_18_5 dX6_isWord_16 (fun v12 ev12 av12 bv12 => ?_)
      have zv12 : u4 = v12 := eu4.trans ev12.symm
      subst zv12
      refine z_aload_n F dX6_isWord_19 rfl (q := 0) rfl ?_
      refine gf_X6_57 F hI gs_18 rfl bd_18_6 dX6_isWord_20 (fun v13 ev13 av13 bv13 => ?_)
      have zv13 : u5 = v13 := eu5.trans ev13.symm
      subst zv13
      refine z_isub F dX6_isWord_23 ?_
      refine z_aload_n F dX6_isWord_24 rfl (q := 1) rfl ?_
      refine zvs_i (i := 14) (rest := [ii (u4 - u5)]) F (kS_len l M ⟨hI, hW⟩ 14 (by decide)) cs_X6_75 (by decide) (by decide) (by decide) rfl rfl rfl (Nat.le_of_ble_eq_true rfl) dX6_isWord_25 (fun v14 M9 rv14 hI9 pv14 => ?_)
      obtain ⟨ev14, rfl⟩ := pv14
      obtain rfl : v14 = 4 := ev14.trans (show ((sbyt.getD 14 []).length : Int) = 4 from by decide)
      clear hI9
      refine z_icmp_eq (tgt := 33) F dX6_isWord_28 (by decide +kernel) (by omega) (by omega) (fun c15 => ?_) (fun c15 => ?_)
      · refine z_iconst F dX6_isWord_33 ?_
        refine z_istore_n F dX6_isWord_34 rfl (by decide) (ls' := [(2, ii 0), (0, .ref (ad 18)), (1, .ref (ad 1014))]) rfl ?_
        refine z_loc [1, 2, 0] (ls' := [(0, .ref (ad 18)), (1, .ref (ad 1014)), (2, ii 0)]) rfl ?_
        suffices key35 : ∀ (n : Nat) (y17 : Int), 0 ≤ y17 → y17 ≤ 4 → (Iw_C M w_even 1 y17) → 4 - y17 < (n : Int) → Z D cy ad p l e (RMh 5) s m args below meth c A 3 0 0 Q 35 [(0, .ref (ad 18)), (1, .ref (ad 1014)), (2, ii y17)] [] M from key35 5 0 (by omega) (by omega) iwC_0 (by omega)
        intro n35
        induction n35 with
        | zero => intro y17 ay17 by17 i35_0 hn35; exfalso; omega
        | succ n35 ih35 =>
          intro y17 ay17 by17 i35_0 hn35
          refine z_iload_n F dX6_isWord_35 rfl (q := 2) rfl ?_
          refine z_aload_n F dX6_isWord_36 rfl (q := 1) rfl ?_
          refine zvs_i (i := 14) (rest := [ii y17]) F (kS_len l M ⟨hI, hW⟩ 14 (by decide)) cs_X6_75 (by decide) (by decide) (by decide) rfl rfl rfl (Nat.le_of_ble_eq_true rfl) dX6_isWord_37 (fun v18 M9 rv18 hI9 pv18 => ?_)
          obtain ⟨ev18, rfl⟩ := pv18
          obtain rfl : v18 = 4 := ev18.trans (show ((sbyt.getD 14 []).length : Int) = 4 from by decide)
          clear hI9
          refine z_icmp_ge (tgt := 70) F dX6_isWord_40 (by decide +kernel) (by omega) (by omega) (fun c19 => ?_) (fun c19 => ?_)
          · refine z_iconst F dX6_isWord_70 ?_
            exact hret _ _ 71 _ ⟨by omega, by omega⟩ ⟨hI, hW⟩ ⟨⟨by omega, by omega⟩, rfl, (by omega), (iwC_e i35_0 (fun q => by rw [wl_even, tkC_lt (c := 1) (by decide) (by decide)]; omega) (by omega) (by omega))⟩ dX6_isWord_71
          · refine z_aload_n F dX6_isWord_43 rfl (q := 0) rfl ?_
            refine rf_X6_22 F gs_18 rfl dX6_isWord_44 ?_
            refine z_aload_n F dX6_isWord_47 rfl (q := 0) rfl ?_
            refine gf_X6_57 F hI gs_18 rfl bd_18_6 dX6_isWord_48 (fun v20 ev20 av20 bv20 => ?_)
            have zv20 : u5 = v20 := eu5.trans ev20.symm
            subst zv20
            refine z_iload_n F dX6_isWord_51 rfl (q := 2) rfl ?_
            refine z_iadd F dX6_isWord_52 ?_
            have k21 : 0 ≤ (u5 + y17) ∧ (u5 + y17) ≤ 899 := by omega
            refine z_bald F hI gs_1 (by omega) (by omega) (by decide) bd_1 dX6_isWord_53 (fun v22 (ev22 : v22 = M 1 _) av22 bv22 => ?_)
            refine z_aload_n F dX6_isWord_54 rfl (q := 1) rfl ?_
            refine z_iload_n F dX6_isWord_55 rfl (q := 2) rfl ?_
            refine zvs_i (i := 14) (rest := [ii v22]) F (kS_chr l M ⟨hI, hW⟩ 14 (by decide) y17 (by omega) (show y17 < ((sbyt.getD 14 []).length : Int) from by rw [show ((sbyt.getD 14 []).length : Int) = 4 from by decide]; omega)) cs_X6_78 (by decide) (by decide) (by decide) rfl rfl rfl (Nat.le_of_ble_eq_true rfl) dX6_isWord_56 (fun v23 M9 rv23 hI9 pv23 => ?_)
            obtain ⟨⟨av23, bv23, ev23⟩, rfl⟩ := pv23
            clear hI9
            refine z_icmp_eq (tgt := 64) F dX6_isWord_59 (by decide +kernel) (by omega) (by omega) (fun c24 => ?_) (fun c24 => ?_)
            · refine z_iincN F dX6_isWord_64 (q := 2) rfl (by decide) (fun v25 ev25 => ?_)
              refine z_eq (ls' := [(2, ii v25), (0, .ref (ad 18)), (1, .ref (ad 1014))]) rfl rfl rfl ?_
              refine z_goto (tgt := 35) F dX6_isWord_67 (by decide +kernel) ?_
              refine z_loc [1, 2, 0] (ls' := [(0, .ref (ad 18)), (1, .ref (ad 1014)), (2, ii v25)]) rfl ?_
              exact ih35 v25 (by omega) (by omega) (by rw [show v25 = y17 + 1 from by omega]; exact iwC_s (z' := 1) (c1 := v22 % 256) i35_0 rfl (by omega) (by rw [wl_even]; omega) (by rw [wl_even]; omega) (show v22 % 256 = bC M ((M 18 6).toNat + (y17).toNat) from by show _ = M 1 _ % 256; rw [show (M 18 6).toNat + (y17).toNat = ((u5 + y17)).toNat from by omega, ← ev22]) (ev23.trans (sw_14 (y17).toNat (by omega)).1) (by have g9 := (sw_14 (y17).toNat (by omega)).2; omega)) (by omega)
            · refine z_iconst F dX6_isWord_62 ?_
              exact hret _ _ 63 _ ⟨by omega, by omega⟩ ⟨hI, hW⟩ ⟨⟨by omega, by omega⟩, rfl, (by omega), (iwC_e (iwC_s (z' := 0) (c1 := v22 % 256) i35_0 rfl (by omega) (by rw [wl_even]; omega) (by rw [wl_even]; omega) (show v22 % 256 = bC M ((M 18 6).toNat + (y17).toNat) from by show _ = M 1 _ % 256; rw [show (M 18 6).toNat + (y17).toNat = ((u5 + y17)).toNat from by omega, ← ev22]) (ev23.trans (sw_14 (y17).toNat (by omega)).1) (by have g9 := (sw_14 (y17).toNat (by omega)).2; omega)) (fun q => by exfalso; omega) (by omega) (by omega))⟩ dX6_isWord_63
      · refine z_iconst F dX6_isWord_31 ?_
        exact hret _ _ 32 _ ⟨by omega, by omega⟩ ⟨hI, hW⟩ ⟨⟨by omega, by omega⟩, rfl, (by omega), (iwC_e (k := 0) (iwC_n (by rw [wl_even, tkC_lt (c := 1) (by decide) (by decide)]; omega)) (fun q => by exfalso; omega) (by omega) (by omega))⟩ dX6_isWord_32
set_option maxHeartbeats 4000000 in
set_option maxRecDepth 4000 in
theorem kp_X6_takeWord_18_1014 (l : Launch) (M : Mem) (hJ : Iw M) (hp0 : M 18 6 ≤ M 18 5 ∧ M 18 5 ≤ M 18 4 ∧ M 18 7 ≤ 4 * (M 18 5 - M 18 6)) : CI l yX6_takeWord cX6_takeWord 3 (some .boolean) 7 (fun ad => [.ref (ad 18), .ref (ad 1014)]) M (fun z M' => (0 ≤ z ∧ z ≤ 1) ∧ Fr [18] M M' ∧ (M' 18 4 = M 18 4 ∧ M' 18 6 ≤ M' 18 5 ∧ M' 18 5 ≤ M' 18 4 ∧ M' 18 7 ≤ 4 * (M' 18 5 - M' 18 6) ∧ M 18 6 ≤ M' 18 6 ∧ M' 18 1 = M 18 1 ∧ M 18 6 + z ≤ M' 18 6 ∧ (z = 1 → M 18 1 = 0)) ∧ (WZ z (isW w_even (absC M)) ∧ tookW w_even (absC M) = absC M')) := by
  obtain ⟨hI, hW⟩ := hJ
  have hF : Fr [18] M M := Fr.rf
  refine en_z (by decide +kernel) (fun ad => by exact Nat.le_of_ble_eq_true rfl) (fun D cy ad A p e s m args below meth c Q F hret => ?_)
  refine z_eq (ls' := [(0, .ref (ad 18)), (1, .ref (ad 1014))]) rfl rfl rfl ?_
  refine z_aload_n F dX6_takeWord_0 rfl (q := 0) rfl ?_
  refine z_aload_n F dX6_takeWord_1 rfl (q := 1) rfl ?_
  refine zv_i (rest := []) F (kp_X6_isWord_18_1014 l M ⟨hI, hW⟩ (by omega)) cs_X6_86 (T := TX6) (N := 9) (ci := 6) rfl gs_18 (by decide) (by decide) rfl rfl rfl (Nat.le_of_ble_eq_true rfl) dX6_takeWord_2 (fun v1 M2 rv1 hI p3 => ?_)
  obtain ⟨hI, hW⟩ := hI
  obtain ⟨⟨av1, bv1⟩, rfl, xp3, yp3⟩ := p3
  refine z_istore_n F dX6_takeWord_5 rfl (by decide) (ls' := [(2, ii v1), (0, .ref (ad 18)), (1, .ref (ad 1014))]) rfl ?_
  refine z_iload_n F dX6_takeWord_6 rfl (q := 0) rfl ?_
  refine z_if_eq (tgt := 14) F dX6_takeWord_7 (by decide +kernel) (by omega) (fun c4 => ?_) (fun c4 => ?_)
  · refine z_iload_n F dX6_takeWord_14 rfl (q := 0) rfl ?_
    exact hret _ _ 15 _ ⟨by omega, by omega⟩ ⟨hI, hW⟩ ⟨⟨by omega, by omega⟩, hF, (by omega), ⟨yp3, took_f (wz_f yp3 (by omega))⟩⟩ dX6_takeWord_15
  · refine z_aload_n F dX6_takeWord_10 rfl (q := 1) rfl ?_
    refine zv_v (rest := []) F (kp_X6_advance_18 l M ⟨hI, hW⟩ (by omega)) cs_X6_42 (T := TX6) (N := 9) (ci := 6) rfl gs_18 (by decide) (by decide) rfl rfl rfl (Nat.le_of_ble_eq_true rfl) dX6_takeWord_11 (fun M5 hI p6 => ?_)
    obtain ⟨hI, hW⟩ := hI
    obtain ⟨fp6, xp6, yp6⟩ := p6
    have hF := hF.call fp6 (by decide)
    refine z_iload_n F dX6_takeWord_14 rfl (q := 0) rfl ?_
    exact hret _ _ 15 _ ⟨by omega, by omega⟩ ⟨hI, hW⟩ ⟨⟨by omega, by omega⟩, hF, (by omega), ⟨yp3, took_t (wz_t yp3 (by omega)) (yp6 (by omega))⟩⟩ dX6_takeWord_15
set_option maxHeartbeats 4000000 in
set_option maxRecDepth 4000 in
theorem kp_X6_isWord_18_1015 (l : Launch) (M : Mem) (hJ : Iw M) (hp0 : M 18 6 ≤ M 18 5 ∧ M 18 5 ≤ M 18 4 ∧ M 18 7 ≤ 4 * (M 18 5 - M 18 6)) : CI l yX6_isWord cX6_isWord 3 (some .boolean) 5 (fun ad => [.ref (ad 18), .ref (ad 1015)]) M (fun z M' => (0 ≤ z ∧ z ≤ 1) ∧ M = M' ∧ (M 18 6 + z ≤ M 18 5 ∧ (z = 1 → M 18 1 = 0)) ∧ (WZ z (isW w_odd (absC M)))) := by
  obtain ⟨hI, hW⟩ := hJ
  refine en_z (by decide +kernel) (fun ad => by exact Nat.le_of_ble_eq_true rfl) (fun D cy ad A p e s m args below meth c Q F hret => ?_)
  refine z_eq (ls' := [(0, .ref (ad 18)), (1, .ref (ad 1015))]) rfl rfl rfl ?_
  obtain ⟨u1, eu1⟩ : ∃ v : Int, v = M 18 1 := ⟨_, rfl⟩
  have ku1 : (-2147483648) ≤ u1 ∧ u1 ≤ 2147483647 := by have := hI.at (show Bd 18 1 = (-2147483648, 2147483647) from rfl); omega
  obtain ⟨u2, eu2⟩ : ∃ v : Int, v = M 18 2 := ⟨_, rfl⟩
  have ku2 : (-2147483648) ≤ u2 ∧ u2 ≤ 2147483647 := by have := hI.at (show Bd 18 2 = (-2147483648, 2147483647) from rfl); omega
  obtain ⟨u3, eu3⟩ : ∃ v : Int, v = M 18 4 := ⟨_, rfl⟩
  have ku3 : 0 ≤ u3 ∧ u3 ≤ 900 := by have := hI.at (show Bd 18 4 = (0, 900) from rfl); omega
  obtain ⟨u4, eu4⟩ : ∃ v : Int, v = M 18 5 := ⟨_, rfl⟩
  have ku4 : 0 ≤ u4 ∧ u4 ≤ 900 := by have := hI.at (show Bd 18 5 = (0, 900) from rfl); omega
  obtain ⟨u5, eu5⟩ : ∃ v : Int, v = M 18 6 := ⟨_, rfl⟩
  have ku5 : 0 ≤ u5 ∧ u5 ≤ 900 := by have := hI.at (show Bd 18 6 = (0, 900) from rfl); omega
  obtain ⟨u6, eu6⟩ : ∃ v : Int, v = M 18 7 := ⟨_, rfl⟩
  have ku6 : 0 ≤ u6 ∧ u6 ≤ 4 := by have := hI.at (show Bd 18 7 = (0, 4) from rfl); omega
  obtain ⟨u7, eu7⟩ : ∃ v : Int, v = M 18 8 := ⟨_, rfl⟩
  have ku7 : (-2147483648) ≤ u7 ∧ u7 ≤ 2147483647 := by have := hI.at (show Bd 18 8 = (-2147483648, 2147483647) from rfl); omega
  refine z_aload_n F dX6_isWord_0 rfl (q := 0) rfl ?_
  refine gf_X6_36 F hI gs_18 rfl bd_18_1 dX6_isWord_1 (fun v8 ev8 av8 bv8 => ?_)
  have zv8 : u1 = v8 := eu1.trans ev8.symm
  subst zv8
  refine z_if_ne (tgt := 31) F dX6_isWord_4 (by decide +kernel) (by omega) (fun c9 => ?_) (fun c9 => ?_)
  · refine z_iconst F dX6_isWord_31 ?_
    exact hret _ _ 32 _ ⟨by omega, by omega⟩ ⟨hI, hW⟩ ⟨⟨by omega, by omega⟩, rfl, (by omega), (iwC_e (k := 0) (iwC_n (by rw [wl_odd, tkC_lt (c := 1) (by decide) (by decide)]; omega)) (fun q => by exfalso; omega) (by omega) (by omega))⟩ dX6_isWord_32
  · refine z_aload_n F dX6_isWord_7 rfl (q := 0) rfl ?_
    refine gf_X6_48 F hI gs_18 rfl bd_18_7 dX6_isWord_8 (fun v10 ev10 av10 bv10 => ?_)
    have zv10 : u6 = v10 := eu6.trans ev10.symm
    subst zv10
    refine z_iconst F dX6_isWord_11 ?_
    refine z_icmp_ne (tgt := 31) F dX6_isWord_12 (by decide +kernel) (by omega) (by omega) (fun c11 => ?_) (fun c11 => ?_)
    · refine z_iconst F dX6_isWord_31 ?_
      exact hret _ _ 32 _ ⟨by omega, by omega⟩ ⟨hI, hW⟩ ⟨⟨by omega, by omega⟩, rfl, (by omega), (iwC_e (k := 0) (iwC_n (by rw [wl_odd, tkC_lt (c := 1) (by decide) (by decide)]; omega)) (fun q => by exfalso; omega) (by omega) (by omega))⟩ dX6_isWord_32
    · refine z_aload_n F dX6_isWord_15 rfl (q := 0) rfl ?_
      refine gf_X6_33 F hI gs_18 rfl bd_18_5 dX6_isWord_16 (fun v12 ev12 av12 bv12 => ?_)
      have zv12 : u4 = v12 := eu4.trans ev12.symm
      subst zv12
      refine z_aload_n F dX6_isWord_19 rfl (q := 0) rfl ?_
      refine gf_X6_57 F hI gs_18 rfl bd_18_6 dX6_isWord_20 (fun v13 ev13 av13 bv13 => ?_)
      have zv13 : u5 = v13 := eu5.trans ev13.symm
      subst zv13
      refine z_isub F dX6_isWord_23 ?_
      refine z_aload_n F dX6_isWord_24 rfl (q := 1) rfl ?_
      refine zvs_i (i := 15) (rest := [ii (u4 - u5)]) F (kS_len l M ⟨hI, hW⟩ 15 (by decide)) cs_X6_75 (by decide) (by decide) (by decide) rfl rfl rfl (Nat.le_of_ble_eq_true rfl) dX6_isWord_25 (fun v14 M9 rv14 hI9 pv14 => ?_)
      obtain ⟨ev14, rfl⟩ := pv14
      obtain rfl : v14 = 3 := ev14.trans (show ((sbyt.getD 15 []).length : Int) = 3 from by decide)
      clear hI9
      refine z_icmp_eq (tgt := 33) F dX6_isWord_28 (by decide +kernel) (by omega) (by omega) (fun c15 => ?_) (fun c15 => ?_)
      · refine z_iconst F dX6_isWord_33 ?_
        refine z_istore_n F dX6_isWord_34 rfl (by decide) (ls' := [(2, ii 0), (0, .ref (ad 18)), (1, .ref (ad 1015))]) rfl ?_
        refine z_loc [1, 2, 0] (ls' := [(0, .ref (ad 18)), (1, .ref (ad 1015)), (2, ii 0)]) rfl ?_
        suffices key35 : ∀ (n : Nat) (y17 : Int), 0 ≤ y17 → y17 ≤ 3 → (Iw_C M w_odd 1 y17) → 3 - y17 < (n : Int) → Z D cy ad p l e (RMh 5) s m args below meth c A 3 0 0 Q 35 [(0, .ref (ad 18)), (1, .ref (ad 1015)), (2, ii y17)] [] M from key35 4 0 (by omega) (by omega) iwC_0 (by omega)
        intro n35
        induction n35 with
        | zero => intro y17 ay17 by17 i35_0 hn35; exfalso; omega
        | succ n35 ih35 =>
          intro y17 ay17 by17 i35_0 hn35
          refine z_iload_n F dX6_isWord_35 rfl (q := 2) rfl ?_
          refine z_aload_n F dX6_isWord_36 rfl (q := 1) rfl ?_
          refine zvs_i (i := 15) (rest := [ii y17]) F (kS_len l M ⟨hI, hW⟩ 15 (by decide)) cs_X6_75 (by decide) (by decide) (by decide) rfl rfl rfl (Nat.le_of_ble_eq_true rfl) dX6_isWord_37 (fun v18 M9 rv18 hI9 pv18 => ?_)
          obtain ⟨ev18, rfl⟩ := pv18
          obtain rfl : v18 = 3 := ev18.trans (show ((sbyt.getD 15 []).length : Int) = 3 from by decide)
          clear hI9
          refine z_icmp_ge (tgt := 70) F dX6_isWord_40 (by decide +kernel) (by omega) (by omega) (fun c19 => ?_) (fun c19 => ?_)
          · refine z_iconst F dX6_isWord_70 ?_
            exact hret _ _ 71 _ ⟨by omega, by omega⟩ ⟨hI, hW⟩ ⟨⟨by omega, by omega⟩, rfl, (by omega), (iwC_e i35_0 (fun q => by rw [wl_odd, tkC_lt (c := 1) (by decide) (by decide)]; omega) (by omega) (by omega))⟩ dX6_isWord_71
          · refine z_aload_n F dX6_isWord_43 rfl (q := 0) rfl ?_
            refine rf_X6_22 F gs_18 rfl dX6_isWord_44 ?_
            refine z_aload_n F dX6_isWord_47 rfl (q := 0) rfl ?_
            refine gf_X6_57 F hI gs_18 rfl bd_18_6 dX6_isWord_48 (fun v20 ev20 av20 bv20 => ?_)
            have zv20 : u5 = v20 := eu5.trans ev20.symm
            subst zv20
            refine z_iload_n F dX6_isWord_51 rfl (q := 2) rfl ?_
            refine z_iadd F dX6_isWord_52 ?_
            have k21 : 0 ≤ (u5 + y17) ∧ (u5 + y17) ≤ 899 := by omega
            refine z_bald F hI gs_1 (by omega) (by omega) (by decide) bd_1 dX6_isWord_53 (fun v22 (ev22 : v22 = M 1 _) av22 bv22 => ?_)
            refine z_aload_n F dX6_isWord_54 rfl (q := 1) rfl ?_
            refine z_iload_n F dX6_isWord_55 rfl (q := 2) rfl ?_
            refine zvs_i (i := 15) (rest := [ii v22]) F (kS_chr l M ⟨hI, hW⟩ 15 (by decide) y17 (by omega) (show y17 < ((sbyt.getD 15 []).length : Int) from by rw [show ((sbyt.getD 15 []).length : Int) = 3 from by decide]; omega)) cs_X6_78 (by decide) (by decide) (by decide) rfl rfl rfl (Nat.le_of_ble_eq_true rfl) dX6_isWord_56 (fun v23 M9 rv23 hI9 pv23 => ?_)
            obtain ⟨⟨av23, bv23, ev23⟩, rfl⟩ := pv23
            clear hI9
            refine z_icmp_eq (tgt := 64) F dX6_isWord_59 (by decide +kernel) (by omega) (by omega) (fun c24 => ?_) (fun c24 => ?_)
            · refine z_iincN F dX6_isWord_64 (q := 2) rfl (by decide) (fun v25 ev25 => ?_)
              refine z_eq (ls' := [(2, ii v25), (0, .ref (ad 18)), (1, .ref (ad 1015))]) rfl rfl rfl ?_
              refine z_goto (tgt := 35) F dX6_isWord_67 (by decide +kernel) ?_
              refine z_loc [1, 2, 0] (ls' := [(0, .ref (ad 18)), (1, .ref (ad 1015)), (2, ii v25)]) rfl ?_
              exact ih35 v25 (by omega) (by omega) (by rw [show v25 = y17 + 1 from by omega]; exact iwC_s (z' := 1) (c1 := v22 % 256) i35_0 rfl (by omega) (by rw [wl_odd]; omega) (by rw [wl_odd]; omega) (show v22 % 256 = bC M ((M 18 6).toNat + (y17).toNat) from by show _ = M 1 _ % 256; rw [show (M 18 6).toNat + (y17).toNat = ((u5 + y17)).toNat from by omega, ← ev22]) (ev23.trans (sw_15 (y17).toNat (by omega)).1) (by have g9 := (sw_15 (y17).toNat (by omega)).2; omega)) (by omega)
            · refine z_iconst F dX6_isWord_62 ?_
              exact hret _ _ 63 _ ⟨by omega, by omega⟩ ⟨hI, hW⟩ ⟨⟨by omega, by omega⟩, rfl, (by omega), (iwC_e (iwC_s (z' := 0) (c1 := v22 % 256) i35_0 rfl (by omega) (by rw [wl_odd]; omega) (by rw [wl_odd]; omega) (show v22 % 256 = bC M ((M 18 6).toNat + (y17).toNat) from by show _ = M 1 _ % 256; rw [show (M 18 6).toNat + (y17).toNat = ((u5 + y17)).toNat from by omega, ← ev22]) (ev23.trans (sw_15 (y17).toNat (by omega)).1) (by have g9 := (sw_15 (y17).toNat (by omega)).2; omega)) (fun q => by exfalso; omega) (by omega) (by omega))⟩ dX6_isWord_63
      · refine z_iconst F dX6_isWord_31 ?_
        exact hret _ _ 32 _ ⟨by omega, by omega⟩ ⟨hI, hW⟩ ⟨⟨by omega, by omega⟩, rfl, (by omega), (iwC_e (k := 0) (iwC_n (by rw [wl_odd, tkC_lt (c := 1) (by decide) (by decide)]; omega)) (fun q => by exfalso; omega) (by omega) (by omega))⟩ dX6_isWord_32
set_option maxHeartbeats 4000000 in
set_option maxRecDepth 4000 in
theorem kp_X6_takeWord_18_1015 (l : Launch) (M : Mem) (hJ : Iw M) (hp0 : M 18 6 ≤ M 18 5 ∧ M 18 5 ≤ M 18 4 ∧ M 18 7 ≤ 4 * (M 18 5 - M 18 6)) : CI l yX6_takeWord cX6_takeWord 3 (some .boolean) 7 (fun ad => [.ref (ad 18), .ref (ad 1015)]) M (fun z M' => (0 ≤ z ∧ z ≤ 1) ∧ Fr [18] M M' ∧ (M' 18 4 = M 18 4 ∧ M' 18 6 ≤ M' 18 5 ∧ M' 18 5 ≤ M' 18 4 ∧ M' 18 7 ≤ 4 * (M' 18 5 - M' 18 6) ∧ M 18 6 ≤ M' 18 6 ∧ M' 18 1 = M 18 1 ∧ M 18 6 + z ≤ M' 18 6 ∧ (z = 1 → M 18 1 = 0)) ∧ (WZ z (isW w_odd (absC M)) ∧ tookW w_odd (absC M) = absC M')) := by
  obtain ⟨hI, hW⟩ := hJ
  have hF : Fr [18] M M := Fr.rf
  refine en_z (by decide +kernel) (fun ad => by exact Nat.le_of_ble_eq_true rfl) (fun D cy ad A p e s m args below meth c Q F hret => ?_)
  refine z_eq (ls' := [(0, .ref (ad 18)), (1, .ref (ad 1015))]) rfl rfl rfl ?_
  refine z_aload_n F dX6_takeWord_0 rfl (q := 0) rfl ?_
  refine z_aload_n F dX6_takeWord_1 rfl (q := 1) rfl ?_
  refine zv_i (rest := []) F (kp_X6_isWord_18_1015 l M ⟨hI, hW⟩ (by omega)) cs_X6_86 (T := TX6) (N := 9) (ci := 6) rfl gs_18 (by decide) (by decide) rfl rfl rfl (Nat.le_of_ble_eq_true rfl) dX6_takeWord_2 (fun v1 M2 rv1 hI p3 => ?_)
  obtain ⟨hI, hW⟩ := hI
  obtain ⟨⟨av1, bv1⟩, rfl, xp3, yp3⟩ := p3
  refine z_istore_n F dX6_takeWord_5 rfl (by decide) (ls' := [(2, ii v1), (0, .ref (ad 18)), (1, .ref (ad 1015))]) rfl ?_
  refine z_iload_n F dX6_takeWord_6 rfl (q := 0) rfl ?_
  refine z_if_eq (tgt := 14) F dX6_takeWord_7 (by decide +kernel) (by omega) (fun c4 => ?_) (fun c4 => ?_)
  · refine z_iload_n F dX6_takeWord_14 rfl (q := 0) rfl ?_
    exact hret _ _ 15 _ ⟨by omega, by omega⟩ ⟨hI, hW⟩ ⟨⟨by omega, by omega⟩, hF, (by omega), ⟨yp3, took_f (wz_f yp3 (by omega))⟩⟩ dX6_takeWord_15
  · refine z_aload_n F dX6_takeWord_10 rfl (q := 1) rfl ?_
    refine zv_v (rest := []) F (kp_X6_advance_18 l M ⟨hI, hW⟩ (by omega)) cs_X6_42 (T := TX6) (N := 9) (ci := 6) rfl gs_18 (by decide) (by decide) rfl rfl rfl (Nat.le_of_ble_eq_true rfl) dX6_takeWord_11 (fun M5 hI p6 => ?_)
    obtain ⟨hI, hW⟩ := hI
    obtain ⟨fp6, xp6, yp6⟩ := p6
    have hF := hF.call fp6 (by decide)
    refine z_iload_n F dX6_takeWord_14 rfl (q := 0) rfl ?_
    exact hret _ _ 15 _ ⟨by omega, by omega⟩ ⟨hI, hW⟩ ⟨⟨by omega, by omega⟩, hF, (by omega), ⟨yp3, took_t (wz_t yp3 (by omega)) (yp6 (by omega))⟩⟩ dX6_takeWord_15
set_option maxHeartbeats 4000000 in
set_option maxRecDepth 4000 in
theorem kp_X6_isWord_18_1016 (l : Launch) (M : Mem) (hJ : Iw M) (hp0 : M 18 6 ≤ M 18 5 ∧ M 18 5 ≤ M 18 4 ∧ M 18 7 ≤ 4 * (M 18 5 - M 18 6)) : CI l yX6_isWord cX6_isWord 3 (some .boolean) 5 (fun ad => [.ref (ad 18), .ref (ad 1016)]) M (fun z M' => (0 ≤ z ∧ z ≤ 1) ∧ M = M' ∧ (M 18 6 + z ≤ M 18 5 ∧ (z = 1 → M 18 1 = 0)) ∧ (WZ z (isW w_both (absC M)))) := by
  obtain ⟨hI, hW⟩ := hJ
  refine en_z (by decide +kernel) (fun ad => by exact Nat.le_of_ble_eq_true rfl) (fun D cy ad A p e s m args below meth c Q F hret => ?_)
  refine z_eq (ls' := [(0, .ref (ad 18)), (1, .ref (ad 1016))]) rfl rfl rfl ?_
  obtain ⟨u1, eu1⟩ : ∃ v : Int, v = M 18 1 := ⟨_, rfl⟩
  have ku1 : (-2147483648) ≤ u1 ∧ u1 ≤ 2147483647 := by have := hI.at (show Bd 18 1 = (-2147483648, 2147483647) from rfl); omega
  obtain ⟨u2, eu2⟩ : ∃ v : Int, v = M 18 2 := ⟨_, rfl⟩
  have ku2 : (-2147483648) ≤ u2 ∧ u2 ≤ 2147483647 := by have := hI.at (show Bd 18 2 = (-2147483648, 2147483647) from rfl); omega
  obtain ⟨u3, eu3⟩ : ∃ v : Int, v = M 18 4 := ⟨_, rfl⟩
  have ku3 : 0 ≤ u3 ∧ u3 ≤ 900 := by have := hI.at (show Bd 18 4 = (0, 900) from rfl); omega
  obtain ⟨u4, eu4⟩ : ∃ v : Int, v = M 18 5 := ⟨_, rfl⟩
  have ku4 : 0 ≤ u4 ∧ u4 ≤ 900 := by have := hI.at (show Bd 18 5 = (0, 900) from rfl); omega
  obtain ⟨u5, eu5⟩ : ∃ v : Int, v = M 18 6 := ⟨_, rfl⟩
  have ku5 : 0 ≤ u5 ∧ u5 ≤ 900 := by have := hI.at (show Bd 18 6 = (0, 900) from rfl); omega
  obtain ⟨u6, eu6⟩ : ∃ v : Int, v = M 18 7 := ⟨_, rfl⟩
  have ku6 : 0 ≤ u6 ∧ u6 ≤ 4 := by have := hI.at (show Bd 18 7 = (0, 4) from rfl); omega
  obtain ⟨u7, eu7⟩ : ∃ v : Int, v = M 18 8 := ⟨_, rfl⟩
  have ku7 : (-2147483648) ≤ u7 ∧ u7 ≤ 2147483647 := by have := hI.at (show Bd 18 8 = (-2147483648, 2147483647) from rfl); omega
  refine z_aload_n F dX6_isWord_0 rfl (q := 0) rfl ?_
  refine gf_X6_36 F hI gs_18 rfl bd_18_1 dX6_isWord_1 (fun v8 ev8 av8 bv8 => ?_)
  have zv8 : u1 = v8 := eu1.trans ev8.symm
  subst zv8
  refine z_if_ne (tgt := 31) F dX6_isWord_4 (by decide +kernel) (by omega) (fun c9 => ?_) (fun c9 => ?_)
  · refine z_iconst F dX6_isWord_31 ?_
    exact hret _ _ 32 _ ⟨by omega, by omega⟩ ⟨hI, hW⟩ ⟨⟨by omega, by omega⟩, rfl, (by omega), (iwC_e (k := 0) (iwC_n (by rw [wl_both, tkC_lt (c := 1) (by decide) (by decide)]; omega)) (fun q => by exfalso; omega) (by omega) (by omega))⟩ dX6_isWord_32
  · refine z_aload_n F dX6_isWord_7 rfl (q := 0) rfl ?_
    refine gf_X6_48 F hI gs_18 rfl bd_18_7 dX6_isWord_8 (fun v10 ev10 av10 bv10 => ?_)
    have zv10 : u6 = v10 := eu6.trans ev10.symm
    subst zv10
    refine z_iconst F dX6_isWord_11 ?_
    refine z_icmp_ne (tgt := 31) F dX6_isWord_12 (by decide +kernel) (by omega) (by omega) (fun c11 => ?_) (fun c11 => ?_)
    · refine z_iconst F dX6_isWord_31 ?_
      exact hret _ _ 32 _ ⟨by omega, by omega⟩ ⟨hI, hW⟩ ⟨⟨by omega, by omega⟩, rfl, (by omega), (iwC_e (k := 0) (iwC_n (by rw [wl_both, tkC_lt (c := 1) (by decide) (by decide)]; omega)) (fun q => by exfalso; omega) (by omega) (by omega))⟩ dX6_isWord_32
    · refine z_aload_n F dX6_isWord_15 rfl (q := 0) rfl ?_
      refine gf_X6_33 F hI gs_18 rfl bd_18_5 dX6_isWord_16 (fun v12 ev12 av12 bv12 => ?_)
      have zv12 : u4 = v12 := eu4.trans ev12.symm
      subst zv12
      refine z_aload_n F dX6_isWord_19 rfl (q := 0) rfl ?_
      refine gf_X6_57 F hI gs_18 rfl bd_18_6 dX6_isWord_20 (fun v13 ev13 av13 bv13 => ?_)
      have zv13 : u5 = v13 := eu5.trans ev13.symm
      subst zv13
      refine z_isub F dX6_isWord_23 ?_
      refine z_aload_n F dX6_isWord_24 rfl (q := 1) rfl ?_
      refine zvs_i (i := 16) (rest := [ii (u4 - u5)]) F (kS_len l M ⟨hI, hW⟩ 16 (by decide)) cs_X6_75 (by decide) (by decide) (by decide) rfl rfl rfl (Nat.le_of_ble_eq_true rfl) dX6_isWord_25 (fun v14 M9 rv14 hI9 pv14 => ?_)
      obtain ⟨ev14, rfl⟩ := pv14
      obtain rfl : v14 = 4 := ev14.trans (show ((sbyt.getD 16 []).length : Int) = 4 from by decide)
      clear hI9
      refine z_icmp_eq (tgt := 33) F dX6_isWord_28 (by decide +kernel) (by omega) (by omega) (fun c15 => ?_) (fun c15 => ?_)
      · refine z_iconst F dX6_isWord_33 ?_
        refine z_istore_n F dX6_isWord_34 rfl (by decide) (ls' := [(2, ii 0), (0, .ref (ad 18)), (1, .ref (ad 1016))]) rfl ?_
        refine z_loc [1, 2, 0] (ls' := [(0, .ref (ad 18)), (1, .ref (ad 1016)), (2, ii 0)]) rfl ?_
        suffices key35 : ∀ (n : Nat) (y17 : Int), 0 ≤ y17 → y17 ≤ 4 → (Iw_C M w_both 1 y17) → 4 - y17 < (n : Int) → Z D cy ad p l e (RMh 5) s m args below meth c A 3 0 0 Q 35 [(0, .ref (ad 18)), (1, .ref (ad 1016)), (2, ii y17)] [] M from key35 5 0 (by omega) (by omega) iwC_0 (by omega)
        intro n35
        induction n35 with
        | zero => intro y17 ay17 by17 i35_0 hn35; exfalso; omega
        | succ n35 ih35 =>
          intro y17 ay17 by17 i35_0 hn35
          refine z_iload_n F dX6_isWord_35 rfl (q := 2) rfl ?_
          refine z_aload_n F dX6_isWord_36 rfl (q := 1) rfl ?_
          refine zvs_i (i := 16) (rest := [ii y17]) F (kS_len l M ⟨hI, hW⟩ 16 (by decide)) cs_X6_75 (by decide) (by decide) (by decide) rfl rfl rfl (Nat.le_of_ble_eq_true rfl) dX6_isWord_37 (fun v18 M9 rv18 hI9 pv18 => ?_)
          obtain ⟨ev18, rfl⟩ := pv18
          obtain rfl : v18 = 4 := ev18.trans (show ((sbyt.getD 16 []).length : Int) = 4 from by decide)
          clear hI9
          refine z_icmp_ge (tgt := 70) F dX6_isWord_40 (by decide +kernel) (by omega) (by omega) (fun c19 => ?_) (fun c19 => ?_)
          · refine z_iconst F dX6_isWord_70 ?_
            exact hret _ _ 71 _ ⟨by omega, by omega⟩ ⟨hI, hW⟩ ⟨⟨by omega, by omega⟩, rfl, (by omega), (iwC_e i35_0 (fun q => by rw [wl_both, tkC_lt (c := 1) (by decide) (by decide)]; omega) (by omega) (by omega))⟩ dX6_isWord_71
          · refine z_aload_n F dX6_isWord_43 rfl (q := 0) rfl ?_
            refine rf_X6_22 F gs_18 rfl dX6_isWord_44 ?_
            refine z_aload_n F dX6_isWord_47 rfl (q := 0) rfl ?_
            refine gf_X6_57 F hI gs_18 rfl bd_18_6 dX6_isWord_48 (fun v20 ev20 av20 bv20 => ?_)
            have zv20 : u5 = v20 := eu5.trans ev20.symm
            subst zv20
            refine z_iload_n F dX6_isWord_51 rfl (q := 2) rfl ?_
            refine z_iadd F dX6_isWord_52 ?_
            have k21 : 0 ≤ (u5 + y17) ∧ (u5 + y17) ≤ 899 := by omega
            refine z_bald F hI gs_1 (by omega) (by omega) (by decide) bd_1 dX6_isWord_53 (fun v22 (ev22 : v22 = M 1 _) av22 bv22 => ?_)
            refine z_aload_n F dX6_isWord_54 rfl (q := 1) rfl ?_
            refine z_iload_n F dX6_isWord_55 rfl (q := 2) rfl ?_
            refine zvs_i (i := 16) (rest := [ii v22]) F (kS_chr l M ⟨hI, hW⟩ 16 (by decide) y17 (by omega) (show y17 < ((sbyt.getD 16 []).length : Int) from by rw [show ((sbyt.getD 16 []).length : Int) = 4 from by decide]; omega)) cs_X6_78 (by decide) (by decide) (by decide) rfl rfl rfl (Nat.le_of_ble_eq_true rfl) dX6_isWord_56 (fun v23 M9 rv23 hI9 pv23 => ?_)
            obtain ⟨⟨av23, bv23, ev23⟩, rfl⟩ := pv23
            clear hI9
            refine z_icmp_eq (tgt := 64) F dX6_isWord_59 (by decide +kernel) (by omega) (by omega) (fun c24 => ?_) (fun c24 => ?_)
            · refine z_iincN F dX6_isWord_64 (q := 2) rfl (by decide) (fun v25 ev25 => ?_)
              refine z_eq (ls' := [(2, ii v25), (0, .ref (ad 18)), (1, .ref (ad 1016))]) rfl rfl rfl ?_
              refine z_goto (tgt := 35) F dX6_isWord_67 (by decide +kernel) ?_
              refine z_loc [1, 2, 0] (ls' := [(0, .ref (ad 18)), (1, .ref (ad 1016)), (2, ii v25)]) rfl ?_
              exact ih35 v25 (by omega) (by omega) (by rw [show v25 = y17 + 1 from by omega]; exact iwC_s (z' := 1) (c1 := v22 % 256) i35_0 rfl (by omega) (by rw [wl_both]; omega) (by rw [wl_both]; omega) (show v22 % 256 = bC M ((M 18 6).toNat + (y17).toNat) from by show _ = M 1 _ % 256; rw [show (M 18 6).toNat + (y17).toNat = ((u5 + y17)).toNat from by omega, ← ev22]) (ev23.trans (sw_16 (y17).toNat (by omega)).1) (by have g9 := (sw_16 (y17).toNat (by omega)).2; omega)) (by omega)
            · refine z_iconst F dX6_isWord_62 ?_
              exact hret _ _ 63 _ ⟨by omega, by omega⟩ ⟨hI, hW⟩ ⟨⟨by omega, by omega⟩, rfl, (by omega), (iwC_e (iwC_s (z' := 0) (c1 := v22 % 256) i35_0 rfl (by omega) (by rw [wl_both]; omega) (by rw [wl_both]; omega) (show v22 % 256 = bC M ((M 18 6).toNat + (y17).toNat) from by show _ = M 1 _ % 256; rw [show (M 18 6).toNat + (y17).toNat = ((u5 + y17)).toNat from by omega, ← ev22]) (ev23.trans (sw_16 (y17).toNat (by omega)).1) (by have g9 := (sw_16 (y17).toNat (by omega)).2; omega)) (fun q => by exfalso; omega) (by omega) (by omega))⟩ dX6_isWord_63
      · refine z_iconst F dX6_isWord_31 ?_
        exact hret _ _ 32 _ ⟨by omega, by omega⟩ ⟨hI, hW⟩ ⟨⟨by omega, by omega⟩, rfl, (by omega), (iwC_e (k := 0) (iwC_n (by rw [wl_both, tkC_lt (c := 1) (by decide) (by decide)]; omega)) (fun q => by exfalso; omega) (by omega) (by omega))⟩ dX6_isWord_32
set_option maxHeartbeats 4000000 in
set_option maxRecDepth 4000 in
theorem kp_X6_takeWord_18_1016 (l : Launch) (M : Mem) (hJ : Iw M) (hp0 : M 18 6 ≤ M 18 5 ∧ M 18 5 ≤ M 18 4 ∧ M 18 7 ≤ 4 * (M 18 5 - M 18 6)) : CI l yX6_takeWord cX6_takeWord 3 (some .boolean) 7 (fun ad => [.ref (ad 18), .ref (ad 1016)]) M (fun z M' => (0 ≤ z ∧ z ≤ 1) ∧ Fr [18] M M' ∧ (M' 18 4 = M 18 4 ∧ M' 18 6 ≤ M' 18 5 ∧ M' 18 5 ≤ M' 18 4 ∧ M' 18 7 ≤ 4 * (M' 18 5 - M' 18 6) ∧ M 18 6 ≤ M' 18 6 ∧ M' 18 1 = M 18 1 ∧ M 18 6 + z ≤ M' 18 6 ∧ (z = 1 → M 18 1 = 0)) ∧ (WZ z (isW w_both (absC M)) ∧ tookW w_both (absC M) = absC M')) := by
  obtain ⟨hI, hW⟩ := hJ
  have hF : Fr [18] M M := Fr.rf
  refine en_z (by decide +kernel) (fun ad => by exact Nat.le_of_ble_eq_true rfl) (fun D cy ad A p e s m args below meth c Q F hret => ?_)
  refine z_eq (ls' := [(0, .ref (ad 18)), (1, .ref (ad 1016))]) rfl rfl rfl ?_
  refine z_aload_n F dX6_takeWord_0 rfl (q := 0) rfl ?_
  refine z_aload_n F dX6_takeWord_1 rfl (q := 1) rfl ?_
  refine zv_i (rest := []) F (kp_X6_isWord_18_1016 l M ⟨hI, hW⟩ (by omega)) cs_X6_86 (T := TX6) (N := 9) (ci := 6) rfl gs_18 (by decide) (by decide) rfl rfl rfl (Nat.le_of_ble_eq_true rfl) dX6_takeWord_2 (fun v1 M2 rv1 hI p3 => ?_)
  obtain ⟨hI, hW⟩ := hI
  obtain ⟨⟨av1, bv1⟩, rfl, xp3, yp3⟩ := p3
  refine z_istore_n F dX6_takeWord_5 rfl (by decide) (ls' := [(2, ii v1), (0, .ref (ad 18)), (1, .ref (ad 1016))]) rfl ?_
  refine z_iload_n F dX6_takeWord_6 rfl (q := 0) rfl ?_
  refine z_if_eq (tgt := 14) F dX6_takeWord_7 (by decide +kernel) (by omega) (fun c4 => ?_) (fun c4 => ?_)
  · refine z_iload_n F dX6_takeWord_14 rfl (q := 0) rfl ?_
    exact hret _ _ 15 _ ⟨by omega, by omega⟩ ⟨hI, hW⟩ ⟨⟨by omega, by omega⟩, hF, (by omega), ⟨yp3, took_f (wz_f yp3 (by omega))⟩⟩ dX6_takeWord_15
  · refine z_aload_n F dX6_takeWord_10 rfl (q := 1) rfl ?_
    refine zv_v (rest := []) F (kp_X6_advance_18 l M ⟨hI, hW⟩ (by omega)) cs_X6_42 (T := TX6) (N := 9) (ci := 6) rfl gs_18 (by decide) (by decide) rfl rfl rfl (Nat.le_of_ble_eq_true rfl) dX6_takeWord_11 (fun M5 hI p6 => ?_)
    obtain ⟨hI, hW⟩ := hI
    obtain ⟨fp6, xp6, yp6⟩ := p6
    have hF := hF.call fp6 (by decide)
    refine z_iload_n F dX6_takeWord_14 rfl (q := 0) rfl ?_
    exact hret _ _ 15 _ ⟨by omega, by omega⟩ ⟨hI, hW⟩ ⟨⟨by omega, by omega⟩, hF, (by omega), ⟨yp3, took_t (wz_t yp3 (by omega)) (yp6 (by omega))⟩⟩ dX6_takeWord_15
set_option maxHeartbeats 4000000 in
set_option maxRecDepth 4000 in
theorem kp_X6_isWord_18_1017 (l : Launch) (M : Mem) (hJ : Iw M) (hp0 : M 18 6 ≤ M 18 5 ∧ M 18 5 ≤ M 18 4 ∧ M 18 7 ≤ 4 * (M 18 5 - M 18 6)) : CI l yX6_isWord cX6_isWord 3 (some .boolean) 5 (fun ad => [.ref (ad 18), .ref (ad 1017)]) M (fun z M' => (0 ≤ z ∧ z ≤ 1) ∧ M = M' ∧ (M 18 6 + z ≤ M 18 5 ∧ (z = 1 → M 18 1 = 0)) ∧ (WZ z (isW w_neither (absC M)))) := by
  obtain ⟨hI, hW⟩ := hJ
  refine en_z (by decide +kernel) (fun ad => by exact Nat.le_of_ble_eq_true rfl) (fun D cy ad A p e s m args below meth c Q F hret => ?_)
  refine z_eq (ls' := [(0, .ref (ad 18)), (1, .ref (ad 1017))]) rfl rfl rfl ?_
  obtain ⟨u1, eu1⟩ : ∃ v : Int, v = M 18 1 := ⟨_, rfl⟩
  have ku1 : (-2147483648) ≤ u1 ∧ u1 ≤ 2147483647 := by have := hI.at (show Bd 18 1 = (-2147483648, 2147483647) from rfl); omega
  obtain ⟨u2, eu2⟩ : ∃ v : Int, v = M 18 2 := ⟨_, rfl⟩
  have ku2 : (-2147483648) ≤ u2 ∧ u2 ≤ 2147483647 := by have := hI.at (show Bd 18 2 = (-2147483648, 2147483647) from rfl); omega
  obtain ⟨u3, eu3⟩ : ∃ v : Int, v = M 18 4 := ⟨_, rfl⟩
  have ku3 : 0 ≤ u3 ∧ u3 ≤ 900 := by have := hI.at (show Bd 18 4 = (0, 900) from rfl); omega
  obtain ⟨u4, eu4⟩ : ∃ v : Int, v = M 18 5 := ⟨_, rfl⟩
  have ku4 : 0 ≤ u4 ∧ u4 ≤ 900 := by have := hI.at (show Bd 18 5 = (0, 900) from rfl); omega
  obtain ⟨u5, eu5⟩ : ∃ v : Int, v = M 18 6 := ⟨_, rfl⟩
  have ku5 : 0 ≤ u5 ∧ u5 ≤ 900 := by have := hI.at (show Bd 18 6 = (0, 900) from rfl); omega
  obtain ⟨u6, eu6⟩ : ∃ v : Int, v = M 18 7 := ⟨_, rfl⟩
  have ku6 : 0 ≤ u6 ∧ u6 ≤ 4 := by have := hI.at (show Bd 18 7 = (0, 4) from rfl); omega
  obtain ⟨u7, eu7⟩ : ∃ v : Int, v = M 18 8 := ⟨_, rfl⟩
  have ku7 : (-2147483648) ≤ u7 ∧ u7 ≤ 2147483647 := by have := hI.at (show Bd 18 8 = (-2147483648, 2147483647) from rfl); omega
  refine z_aload_n F dX6_isWord_0 rfl (q := 0) rfl ?_
  refine gf_X6_36 F hI gs_18 rfl bd_18_1 dX6_isWord_1 (fun v8 ev8 av8 bv8 => ?_)
  have zv8 : u1 = v8 := eu1.trans ev8.symm
  subst zv8
  refine z_if_ne (tgt := 31) F dX6_isWord_4 (by decide +kernel) (by omega) (fun c9 => ?_) (fun c9 => ?_)
  · refine z_iconst F dX6_isWord_31 ?_
    exact hret _ _ 32 _ ⟨by omega, by omega⟩ ⟨hI, hW⟩ ⟨⟨by omega, by omega⟩, rfl, (by omega), (iwC_e (k := 0) (iwC_n (by rw [wl_neither, tkC_lt (c := 1) (by decide) (by decide)]; omega)) (fun q => by exfalso; omega) (by omega) (by omega))⟩ dX6_isWord_32
  · refine z_aload_n F dX6_isWord_7 rfl (q := 0) rfl ?_
    refine gf_X6_48 F hI gs_18 rfl bd_18_7 dX6_isWord_8 (fun v10 ev10 av10 bv10 => ?_)
    have zv10 : u6 = v10 := eu6.trans ev10.symm
    subst zv10
    refine z_iconst F dX6_isWord_11 ?_
    refine z_icmp_ne (tgt := 31) F dX6_isWord_12 (by decide +kernel) (by omega) (by omega) (fun c11 => ?_) (fun c11 => ?_)
    · refine z_iconst F dX6_isWord_31 ?_
      exact hret _ _ 32 _ ⟨by omega, by omega⟩ ⟨hI, hW⟩ ⟨⟨by omega, by omega⟩, rfl, (by omega), (iwC_e (k := 0) (iwC_n (by rw [wl_neither, tkC_lt (c := 1) (by decide) (by decide)]; omega)) (fun q => by exfalso; omega) (by omega) (by omega))⟩ dX6_isWord_32
    · refine z_aload_n F dX6_isWord_15 rfl (q := 0) rfl ?_
      refine gf_X6_33 F hI gs_18 rfl bd_18_5 dX6_isWord_16 (fun v12 ev12 av12 bv12 => ?_)
      have zv12 : u4 = v12 := eu4.trans ev12.symm
      subst zv12
      refine z_aload_n F dX6_isWord_19 rfl (q := 0) rfl ?_
      refine gf_X6_57 F hI gs_18 rfl bd_18_6 dX6_isWord_20 (fun v13 ev13 av13 bv13 => ?_)
      have zv13 : u5 = v13 := eu5.trans ev13.symm
      subst zv13
      refine z_isub F dX6_isWord_23 ?_
      refine z_aload_n F dX6_isWord_24 rfl (q := 1) rfl ?_
      refine zvs_i (i := 17) (rest := [ii (u4 - u5)]) F (kS_len l M ⟨hI, hW⟩ 17 (by decide)) cs_X6_75 (by decide) (by decide) (by decide) rfl rfl rfl (Nat.le_of_ble_eq_true rfl) dX6_isWord_25 (fun v14 M9 rv14 hI9 pv14 => ?_)
      obtain ⟨ev14, rfl⟩ := pv14
      obtain rfl : v14 = 7 := ev14.trans (show ((sbyt.getD 17 []).length : Int) = 7 from by decide)
      clear hI9
      refine z_icmp_eq (tgt := 33) F dX6_isWord_28 (by decide +kernel) (by omega) (by omega) (fun c15 => ?_) (fun c15 => ?_)
      · refine z_iconst F dX6_isWord_33 ?_
        refine z_istore_n F dX6_isWord_34 rfl (by decide) (ls' := [(2, ii 0), (0, .ref (ad 18)), (1, .ref (ad 1017))]) rfl ?_
        refine z_loc [1, 2, 0] (ls' := [(0, .ref (ad 18)), (1, .ref (ad 1017)), (2, ii 0)]) rfl ?_
        suffices key35 : ∀ (n : Nat) (y17 : Int), 0 ≤ y17 → y17 ≤ 7 → (Iw_C M w_neither 1 y17) → 7 - y17 < (n : Int) → Z D cy ad p l e (RMh 5) s m args below meth c A 3 0 0 Q 35 [(0, .ref (ad 18)), (1, .ref (ad 1017)), (2, ii y17)] [] M from key35 8 0 (by omega) (by omega) iwC_0 (by omega)
        intro n35
        induction n35 with
        | zero => intro y17 ay17 by17 i35_0 hn35; exfalso; omega
        | succ n35 ih35 =>
          intro y17 ay17 by17 i35_0 hn35
          refine z_iload_n F dX6_isWord_35 rfl (q := 2) rfl ?_
          refine z_aload_n F dX6_isWord_36 rfl (q := 1) rfl ?_
          refine zvs_i (i := 17) (rest := [ii y17]) F (kS_len l M ⟨hI, hW⟩ 17 (by decide)) cs_X6_75 (by decide) (by decide) (by decide) rfl rfl rfl (Nat.le_of_ble_eq_true rfl) dX6_isWord_37 (fun v18 M9 rv18 hI9 pv18 => ?_)
          obtain ⟨ev18, rfl⟩ := pv18
          obtain rfl : v18 = 7 := ev18.trans (show ((sbyt.getD 17 []).length : Int) = 7 from by decide)
          clear hI9
          refine z_icmp_ge (tgt := 70) F dX6_isWord_40 (by decide +kernel) (by omega) (by omega) (fun c19 => ?_) (fun c19 => ?_)
          · refine z_iconst F dX6_isWord_70 ?_
            exact hret _ _ 71 _ ⟨by omega, by omega⟩ ⟨hI, hW⟩ ⟨⟨by omega, by omega⟩, rfl, (by omega), (iwC_e i35_0 (fun q => by rw [wl_neither, tkC_lt (c := 1) (by decide) (by decide)]; omega) (by omega) (by omega))⟩ dX6_isWord_71
          · refine z_aload_n F dX6_isWord_43 rfl (q := 0) rfl ?_
            refine rf_X6_22 F gs_18 rfl dX6_isWord_44 ?_
            refine z_aload_n F dX6_isWord_47 rfl (q := 0) rfl ?_
            refine gf_X6_57 F hI gs_18 rfl bd_18_6 dX6_isWord_48 (fun v20 ev20 av20 bv20 => ?_)
            have zv20 : u5 = v20 := eu5.trans ev20.symm
            subst zv20
            refine z_iload_n F dX6_isWord_51 rfl (q := 2) rfl ?_
            refine z_iadd F dX6_isWord_52 ?_
            have k21 : 0 ≤ (u5 + y17) ∧ (u5 + y17) ≤ 899 := by omega
            refine z_bald F hI gs_1 (by omega) (by omega) (by decide) bd_1 dX6_isWord_53 (fun v22 (ev22 : v22 = M 1 _) av22 bv22 => ?_)
            refine z_aload_n F dX6_isWord_54 rfl (q := 1) rfl ?_
            refine z_iload_n F dX6_isWord_55 rfl (q := 2) rfl ?_
            refine zvs_i (i := 17) (rest := [ii v22]) F (kS_chr l M ⟨hI, hW⟩ 17 (by decide) y17 (by omega) (show y17 < ((sbyt.getD 17 []).length : Int) from by rw [show ((sbyt.getD 17 []).length : Int) = 7 from by decide]; omega)) cs_X6_78 (by decide) (by decide) (by decide) rfl rfl rfl (Nat.le_of_ble_eq_true rfl) dX6_isWord_56 (fun v23 M9 rv23 hI9 pv23 => ?_)
            obtain ⟨⟨av23, bv23, ev23⟩, rfl⟩ := pv23
            clear hI9
            refine z_icmp_eq (tgt := 64) F dX6_isWord_59 (by decide +kernel) (by omega) (by omega) (fun c24 => ?_) (fun c24 => ?_)
            · refine z_iincN F dX6_isWord_64 (q := 2) rfl (by decide) (fun v25 ev25 => ?_)
              refine z_eq (ls' := [(2, ii v25), (0, .ref (ad 18)), (1, .ref (ad 1017))]) rfl rfl rfl ?_
              refine z_goto (tgt := 35) F dX6_isWord_67 (by decide +kernel) ?_
              refine z_loc [1, 2, 0] (ls' := [(0, .ref (ad 18)), (1, .ref (ad 1017)), (2, ii v25)]) rfl ?_
              exact ih35 v25 (by omega) (by omega) (by rw [show v25 = y17 + 1 from by omega]; exact iwC_s (z' := 1) (c1 := v22 % 256) i35_0 rfl (by omega) (by rw [wl_neither]; omega) (by rw [wl_neither]; omega) (show v22 % 256 = bC M ((M 18 6).toNat + (y17).toNat) from by show _ = M 1 _ % 256; rw [show (M 18 6).toNat + (y17).toNat = ((u5 + y17)).toNat from by omega, ← ev22]) (ev23.trans (sw_17 (y17).toNat (by omega)).1) (by have g9 := (sw_17 (y17).toNat (by omega)).2; omega)) (by omega)
            · refine z_iconst F dX6_isWord_62 ?_
              exact hret _ _ 63 _ ⟨by omega, by omega⟩ ⟨hI, hW⟩ ⟨⟨by omega, by omega⟩, rfl, (by omega), (iwC_e (iwC_s (z' := 0) (c1 := v22 % 256) i35_0 rfl (by omega) (by rw [wl_neither]; omega) (by rw [wl_neither]; omega) (show v22 % 256 = bC M ((M 18 6).toNat + (y17).toNat) from by show _ = M 1 _ % 256; rw [show (M 18 6).toNat + (y17).toNat = ((u5 + y17)).toNat from by omega, ← ev22]) (ev23.trans (sw_17 (y17).toNat (by omega)).1) (by have g9 := (sw_17 (y17).toNat (by omega)).2; omega)) (fun q => by exfalso; omega) (by omega) (by omega))⟩ dX6_isWord_63
      · refine z_iconst F dX6_isWord_31 ?_
        exact hret _ _ 32 _ ⟨by omega, by omega⟩ ⟨hI, hW⟩ ⟨⟨by omega, by omega⟩, rfl, (by omega), (iwC_e (k := 0) (iwC_n (by rw [wl_neither, tkC_lt (c := 1) (by decide) (by decide)]; omega)) (fun q => by exfalso; omega) (by omega) (by omega))⟩ dX6_isWord_32
set_option maxHeartbeats 4000000 in
set_option maxRecDepth 4000 in
theorem kp_X6_takeWord_18_1017 (l : Launch) (M : Mem) (hJ : Iw M) (hp0 : M 18 6 ≤ M 18 5 ∧ M 18 5 ≤ M 18 4 ∧ M 18 7 ≤ 4 * (M 18 5 - M 18 6)) : CI l yX6_takeWord cX6_takeWord 3 (some .boolean) 7 (fun ad => [.ref (ad 18), .ref (ad 1017)]) M (fun z M' => (0 ≤ z ∧ z ≤ 1) ∧ Fr [18] M M' ∧ (M' 18 4 = M 18 4 ∧ M' 18 6 ≤ M' 18 5 ∧ M' 18 5 ≤ M' 18 4 ∧ M' 18 7 ≤ 4 * (M' 18 5 - M' 18 6) ∧ M 18 6 ≤ M' 18 6 ∧ M' 18 1 = M 18 1 ∧ M 18 6 + z ≤ M' 18 6 ∧ (z = 1 → M 18 1 = 0)) ∧ (WZ z (isW w_neither (absC M)) ∧ tookW w_neither (absC M) = absC M')) := by
  obtain ⟨hI, hW⟩ := hJ
  have hF : Fr [18] M M := Fr.rf
  refine en_z (by decide +kernel) (fun ad => by exact Nat.le_of_ble_eq_true rfl) (fun D cy ad A p e s m args below meth c Q F hret => ?_)
  refine z_eq (ls' := [(0, .ref (ad 18)), (1, .ref (ad 1017))]) rfl rfl rfl ?_
  refine z_aload_n F dX6_takeWord_0 rfl (q := 0) rfl ?_
  refine z_aload_n F dX6_takeWord_1 rfl (q := 1) rfl ?_
  refine zv_i (rest := []) F (kp_X6_isWord_18_1017 l M ⟨hI, hW⟩ (by omega)) cs_X6_86 (T := TX6) (N := 9) (ci := 6) rfl gs_18 (by decide) (by decide) rfl rfl rfl (Nat.le_of_ble_eq_true rfl) dX6_takeWord_2 (fun v1 M2 rv1 hI p3 => ?_)
  obtain ⟨hI, hW⟩ := hI
  obtain ⟨⟨av1, bv1⟩, rfl, xp3, yp3⟩ := p3
  refine z_istore_n F dX6_takeWord_5 rfl (by decide) (ls' := [(2, ii v1), (0, .ref (ad 18)), (1, .ref (ad 1017))]) rfl ?_
  refine z_iload_n F dX6_takeWord_6 rfl (q := 0) rfl ?_
  refine z_if_eq (tgt := 14) F dX6_takeWord_7 (by decide +kernel) (by omega) (fun c4 => ?_) (fun c4 => ?_)
  · refine z_iload_n F dX6_takeWord_14 rfl (q := 0) rfl ?_
    exact hret _ _ 15 _ ⟨by omega, by omega⟩ ⟨hI, hW⟩ ⟨⟨by omega, by omega⟩, hF, (by omega), ⟨yp3, took_f (wz_f yp3 (by omega))⟩⟩ dX6_takeWord_15
  · refine z_aload_n F dX6_takeWord_10 rfl (q := 1) rfl ?_
    refine zv_v (rest := []) F (kp_X6_advance_18 l M ⟨hI, hW⟩ (by omega)) cs_X6_42 (T := TX6) (N := 9) (ci := 6) rfl gs_18 (by decide) (by decide) rfl rfl rfl (Nat.le_of_ble_eq_true rfl) dX6_takeWord_11 (fun M5 hI p6 => ?_)
    obtain ⟨hI, hW⟩ := hI
    obtain ⟨fp6, xp6, yp6⟩ := p6
    have hF := hF.call fp6 (by decide)
    refine z_iload_n F dX6_takeWord_14 rfl (q := 0) rfl ?_
    exact hret _ _ 15 _ ⟨by omega, by omega⟩ ⟨hI, hW⟩ ⟨⟨by omega, by omega⟩, hF, (by omega), ⟨yp3, took_t (wz_t yp3 (by omega)) (yp6 (by omega))⟩⟩ dX6_takeWord_15
