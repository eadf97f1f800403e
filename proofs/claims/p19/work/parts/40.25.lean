theorem dX6_readTerm_0 : decode cX6_readTerm 0 = .ok (.aload_n 0, 1) := by decide +kernel
theorem dX6_readTerm_1 : decode cX6_readTerm 1 = .ok (.iload_n 1, 1) := by decide +kernel
theorem dX6_readTerm_11 : decode cX6_readTerm 11 = .ok (.if_icmp .ge 35, 3) := by decide +kernel
theorem dX6_readTerm_14 : decode cX6_readTerm 14 = .ok (.aload_n 0, 1) := by decide +kernel
theorem dX6_readTerm_15 : decode cX6_readTerm 15 = .ok (.bipush 42, 2) := by decide +kernel
theorem dX6_readTerm_17 : decode cX6_readTerm 17 = .ok (.invokevirtual 265, 3) := by decide +kernel
theorem dX6_readTerm_2 : decode cX6_readTerm 2 = .ok (.invokevirtual 262, 3) := by decide +kernel
theorem dX6_readTerm_20 : decode cX6_readTerm 20 = .ok (.ifCond .eq 26, 3) := by decide +kernel
theorem dX6_readTerm_23 : decode cX6_readTerm 23 = .ok (.aload_n 0, 1) := by decide +kernel
theorem dX6_readTerm_24 : decode cX6_readTerm 24 = .ok (.iload_n 1, 1) := by decide +kernel
theorem dX6_readTerm_25 : decode cX6_readTerm 25 = .ok (.invokevirtual 262, 3) := by decide +kernel
theorem dX6_readTerm_28 : decode cX6_readTerm 28 = .ok (.aload_n 0, 1) := by decide +kernel
theorem dX6_readTerm_29 : decode cX6_readTerm 29 = .ok (.getfield 12, 3) := by decide +kernel
theorem dX6_readTerm_32 : decode cX6_readTerm 32 = .ok (.getfield 152, 3) := by decide +kernel
theorem dX6_readTerm_35 : decode cX6_readTerm 35 = .ok (.bipush (-12), 2) := by decide +kernel
theorem dX6_readTerm_37 : decode cX6_readTerm 37 = .ok (.invokevirtual 239, 3) := by decide +kernel
theorem dX6_readTerm_40 : decode cX6_readTerm 40 = .ok (.iinc 2 1, 3) := by decide +kernel
theorem dX6_readTerm_43 : decode cX6_readTerm 43 = .ok (.goto (-36), 3) := by decide +kernel
theorem dX6_readTerm_46 : decode cX6_readTerm 46 = .ok (.return_, 1) := by decide +kernel
theorem dX6_readTerm_5 : decode cX6_readTerm 5 = .ok (.iconst 0, 1) := by decide +kernel
theorem dX6_readTerm_6 : decode cX6_readTerm 6 = .ok (.istore_n 2, 1) := by decide +kernel
theorem dX6_readTerm_7 : decode cX6_readTerm 7 = .ok (.iload_n 2, 1) := by decide +kernel
theorem dX6_readTerm_8 : decode cX6_readTerm 8 = .ok (.sipush 900, 3) := by decide +kernel
set_option maxHeartbeats 4000000 in
set_option maxRecDepth 4000 in
theorem kp_X6_readTerm_18 (l : Launch) (nr : Nat) (ih : RdX l nr) : ∀ (M : Mem) (hJ : Iw M) (x0 : Int) (hx0a : 0 ≤ x0) (hx0b : x0 ≤ 6) (hp0 : M 18 6 ≤ M 18 5 ∧ M 18 5 ≤ M 18 4 ∧ M 18 7 ≤ 4 * (M 18 5 - M 18 6)) (hmu : (6 - x0) * 8 + 2 < ((nr + 1 : Nat) : Int)), CV l yX6_readTerm cX6_readTerm 3 none (12 + (nr + 1)) (fun ad => [.ref (ad 18), ii x0]) M (fun M' => Fr [18, 31, 32] M M' ∧ (M' 18 4 = M 18 4 ∧ M' 18 6 ≤ M' 18 5 ∧ M' 18 5 ≤ M' 18 4 ∧ M' 18 7 ≤ 4 * (M' 18 5 - M' 18 6) ∧ M 18 6 ≤ M' 18 6) ∧ (RdE 4 x0 (absC M) (absC M'))) := by
  intro M hJ x0 hx0a hx0b hp0 hmu
  obtain ⟨hI, hW⟩ := hJ
  have hF : Fr [18, 31, 32] M M := Fr.rf
  refine en_v (by decide +kernel) (fun ad => by exact Nat.le_of_ble_eq_true rfl) (fun D cy ad A p e s m args below meth c Q F hret => ?_)
  refine z_eq (ls' := [(0, .ref (ad 18)), (1, ii x0)]) rfl rfl rfl ?_
  obtain ⟨u1, eu1⟩ : ∃ v : Int, v = M 18 4 := ⟨_, rfl⟩
  have ku1 : 0 ≤ u1 ∧ u1 ≤ 900 := by have := hI.at (show Bd 18 4 = (0, 900) from rfl); omega
  obtain ⟨u2, eu2⟩ : ∃ v : Int, v = M 18 6 := ⟨_, rfl⟩
  have ku2 : 0 ≤ u2 ∧ u2 ≤ 900 := by have := hI.at (show Bd 18 6 = (0, 900) from rfl); omega
  refine z_aload_n F dX6_readTerm_0 rfl (q := 0) rfl ?_
  refine z_iload_n F dX6_readTerm_1 rfl (q := 1) rfl ?_
  refine zv_v (rest := []) F (ih.2.2.2.2.2 M ⟨hI, hW⟩ x0 (by omega) (by omega) (by omega) (by omega)) cs_X6_262 (T := TX6) (N := 9) (ci := 6) rfl gs_18 (by omega) (by decide) rfl rfl rfl (Nat.le_of_ble_eq_true rfl) dX6_readTerm_2 (fun M3 hI p4 => ?_)
  obtain ⟨hI, hW⟩ := hI
  obtain ⟨fp4, xp4, yp4⟩ := p4
  have hF := hF.call fp4 (by decide)
  refine z_iconst F dX6_readTerm_5 ?_
  refine z_istore_n F dX6_readTerm_6 rfl (by decide) (ls' := [(2, ii 0), (0, .ref (ad 18)), (1, ii x0)]) rfl ?_
  refine z_loc [1, 2, 0] (ls' := [(0, .ref (ad 18)), (1, ii x0), (2, ii 0)]) rfl ?_
  suffices key7 : ∀ (n : Nat) (y6 : Int) (M5 : Mem), Inv M5 → WFk M5 → Fr [18, 31, 32] M M5 → 0 ≤ y6 → y6 ≤ 900 → (M5 18 4 = M 18 4) → (M5 18 6 ≤ M5 18 5 ∧ M5 18 5 ≤ M5 18 4 ∧ M5 18 7 ≤ 4 * (M5 18 5 - M5 18 6)) → (M 18 6 ≤ M5 18 6) → (y6 ≤ M5 18 6) → (LpI 4 9 x0 (absC M) (absC M5)) → 900 - y6 < (n : Int) → Z D cy ad p l e (RMh (12 + (nr + 1))) s m args below meth c A 3 0 0 Q 7 [(0, .ref (ad 18)), (1, ii x0), (2, ii y6)] [] M5 from key7 901 0 M3 hI hW hF (by omega) (by omega) (by omega) (by omega) (by omega) (by omega) (lp_i4 yp4) (by omega)
  intro n7
  induction n7 with
  | zero => intro y6 M5 hI hW hF ay6 by6 i7_0 i7_1 i7_2 i7_3 i7_4 hn7; exfalso; omega
  | succ n7 ih7 =>
    intro y6 M5 hI hW hF ay6 by6 i7_0 i7_1 i7_2 i7_3 i7_4 hn7
    refine z_iload_n F dX6_readTerm_7 rfl (q := 2) rfl ?_
    refine z_sipush F dX6_readTerm_8 (by decide +kernel) ?_
    refine z_icmp_ge (tgt := 46) F dX6_readTerm_11 (by decide +kernel) (by omega) (by omega) (fun c7 => ?_) (fun c7 => ?_)
    · exact hret _ 46 _ ⟨hI, hW⟩ ⟨hF, (by omega), (lp_e4 i7_4 (isTC_f (c := 42) (Or.inr (by rw [tkC_s (by omega) (by omega)]; omega))))⟩ dX6_readTerm_46
    · refine z_aload_n F dX6_readTerm_14 rfl (q := 0) rfl ?_
      refine z_bipush F dX6_readTerm_15 (by decide +kernel) ?_
      refine zv_i (rest := []) F (kp_X6_takeSign_18 l M5 ⟨hI, hW⟩ 42 (by omega) (by omega) (by omega)) cs_X6_265 (T := TX6) (N := 9) (ci := 6) rfl gs_18 (by omega) (by decide) rfl rfl rfl (Nat.le_of_ble_eq_true rfl) dX6_readTerm_17 (fun v8 M9 rv8 hI p10 => ?_)
      obtain ⟨hI, hW⟩ := hI
      obtain ⟨⟨av8, bv8⟩, fp10, xp10, yp10⟩ := p10
      have hF := hF.call fp10 (by decide)
      refine z_if_eq (tgt := 46) F dX6_readTerm_20 (by decide +kernel) (by omega) (fun c11 => ?_) (fun c11 => ?_)
      · exact hret _ 46 _ ⟨hI, hW⟩ ⟨hF, (by omega), (by rw [yp10.2.2 (by omega)]; exact lp_e4 i7_4 (wz_f yp10.1 (by omega)))⟩ dX6_readTerm_46
      · refine z_aload_n F dX6_readTerm_23 rfl (q := 0) rfl ?_
        refine z_iload_n F dX6_readTerm_24 rfl (q := 1) rfl ?_
        refine zv_v (rest := []) F (ih.2.2.2.2.2 M9 ⟨hI, hW⟩ x0 (by omega) (by omega) (by omega) (by omega)) cs_X6_262 (T := TX6) (N := 9) (ci := 6) rfl gs_18 (by omega) (by decide) rfl rfl rfl (Nat.le_of_ble_eq_true rfl) dX6_readTerm_25 (fun M12 hI p13 => ?_)
        obtain ⟨hI, hW⟩ := hI
        obtain ⟨fp13, xp13, yp13⟩ := p13
        have hF := hF.call fp13 (by decide)
        refine z_aload_n F dX6_readTerm_28 rfl (q := 0) rfl ?_
        refine rf_X6_12 F gs_18 rfl dX6_readTerm_29 ?_
        refine rf_X6_152 F gs_19 rfl dX6_readTerm_32 ?_
        refine z_bipush F dX6_readTerm_35 (by decide +kernel) ?_
        refine zv_v (rest := []) F (k_X2_append_31 l M12 ⟨hI, hW⟩ (-12) (by omega) (by omega)) cs_X6_239 (T := TX2) (N := 5) (ci := 2) rfl gs_31 (by omega) (by decide) rfl rfl rfl (Nat.le_of_ble_eq_true rfl) dX6_readTerm_37 (fun M14 hI p15 => ?_)
        obtain ⟨hI, hW⟩ := hI
        obtain ⟨fp15, yp15⟩ := p15
        have hF := hF.call fp15 (by decide)
        have tM14_18_1 : M14 18 1 = M12 18 1 := fp15.at (by decide)
        have tM14_18_4 : M14 18 4 = M12 18 4 := fp15.at (by decide)
        have tM14_18_5 : M14 18 5 = M12 18 5 := fp15.at (by decide)
        have tM14_18_6 : M14 18 6 = M12 18 6 := fp15.at (by decide)
        have tM14_18_7 : M14 18 7 = M12 18 7 := fp15.at (by decide)
        refine z_iincN F dX6_readTerm_40 (q := 2) rfl (by decide) (fun v16 ev16 => ?_)
        refine z_eq (ls' := [(2, ii v16), (0, .ref (ad 18)), (1, ii x0)]) rfl rfl rfl ?_
        refine z_goto (tgt := 7) F dX6_readTerm_43 (by decide +kernel) ?_
        refine z_loc [1, 2, 0] (ls' := [(0, .ref (ad 18)), (1, ii x0), (2, ii v16)]) rfl ?_
        have q17 := yp10.2.1 (by omega)
        have y18 := yp13
        rw [← q17] at y18
        exact ih7 v16 M14 hI hW hF (by omega) (by omega) (by omega) (by omega) (by omega) (by omega) (by rw [yp15]; exact lp_b4 i7_4 (wz_t yp10.1 (by omega)) y18) (by omega)
set_option maxHeartbeats 4000000 in
set_option maxRecDepth 4000 in
theorem kp_X6_isWord_18_1020 (l : Launch) (M : Mem) (hJ : Iw M) (hp0 : M 18 6 ≤ M 18 5 ∧ M 18 5 ≤ M 18 4 ∧ M 18 7 ≤ 4 * (M 18 5 - M 18 6)) : CI l yX6_isWord cX6_isWord 3 (some .boolean) 5 (fun ad => [.ref (ad 18), .ref (ad 1020)]) M (fun z M' => (0 ≤ z ∧ z ≤ 1) ∧ M = M' ∧ (M 18 6 + z ≤ M 18 5 ∧ (z = 1 → M 18 1 = 0)) ∧ (WZ z (isW w_a (absC M)))) := by
  obtain ⟨hI, hW⟩ := hJ
  refine en_z (by decide +kernel) (fun ad => by exact Nat.le_of_ble_eq_true rfl) (fun D cy ad A p e s m args below meth c Q F hret => ?_)
  refine z_eq (ls' := [(0, .ref (ad 18)), (1, .ref (ad 1020))]) rfl rfl rfl ?_
  obtain ⟨u1, eu1⟩ : ∃ v : Int, v = M 18 1 := ⟨_, rfl⟩
  have ku1 : (-2147483648) ≤ u1 ∧ u1 ≤ 2147483647 := by have := hI.at (show Bd 18 1 = (-2147483648, 2147483647) from rfl); omega
  obtain ⟨u2, eu2⟩ : ∃ v : Int, v = M 18 2 := ⟨_, rfl⟩
  have ku2 : (-2147483648) ≤ u2 ∧ u2 ≤ 2147483647 := by have := hI.at (show Bd 18 2 = (-2147483648, 2147483647) from rfl); omega
  obtain ⟨u3, eu3⟩ : ∃ v : Int, v = M 18 4 := ⟨_, rfl⟩
  have ku3 : 0 ≤ u3 ∧ u3 ≤ 900 := by have := hI.at (show Bd 18 4 = (0, 900) from rfl); omega
  obtain ⟨u4, eu4⟩ : ∃ v : Int, v = M 18 5 := ⟨_, rfl⟩
  have ku4 : 0 ≤ u4 ∧ u4 ≤ 900 := by have := hI.at (show Bd 18 5 = (0, 900) from rfl); omega
  obtain ⟨u5, eu5⟩ : ∃ v : Int, v = M 18 6 := ⟨_, rfl⟩
  have ku5 : 0 ≤ u5 ∧ u5 ≤ 900 := by have := hI.at (show Bd 18 6 = (0, 900) from rfl); omega
  obtain ⟨u6, eu6⟩ : ∃ v : Int, v = M 18 7 := ⟨_, rfl⟩
  have ku6 : 0 ≤ u6 ∧ u6 ≤ 4 := by have := hI.at (show Bd 18 7 = (0, 4) from rfl); omega
  obtain ⟨u7, eu7⟩ : ∃ v : Int, v = M 18 8 := ⟨_, rfl⟩
  have ku7 : (-2147483648) ≤ u7 ∧ u7 ≤ 2147483647 := by have := hI.at (show Bd 18 8 = (-2147483648, 2147483647) from rfl); omega
  refine z_aload_n F dX6_isWord_0 rfl (q := 0) rfl ?_
  refine gf_X6_36 F hI gs_18 rfl bd_18_1 dX6_isWord_1 (fun v8 ev8 av8 bv8 => ?_)
  have zv8 : u1 = v8 := eu1.trans ev8.symm
  subst zv8
  refine z_if_ne (tgt := 31) F dX6_isWord_4 (by decide +kernel) (by omega) (fun c9 => ?_) (fun c9 => ?_)
  · refine z_iconst F dX6_isWord_31 ?_
    exact hret _ _ 32 _ ⟨by omega, by omega⟩ ⟨hI, hW⟩ ⟨⟨by omega, by omega⟩, rfl, (by omega), (iwC_e (k := 0) (iwC_n (by rw [wl_a, tkC_lt (c := 1) (by decide) (by decide)]; omega)) (fun q => by exfalso; omega) (by omega) (by omega))⟩ dX6_isWord_32
  · refine z_aload_n F dX6_isWord_7 rfl (q := 0) rfl ?_
    refine gf_X6_48 F hI gs_18 rfl bd_18_7 dX6_isWord_8 (fun v10 ev10 av10 bv10 => ?_)
    have zv10 : u6 = v10 := eu6.trans ev10.symm
    subst zv10
    refine z_iconst F dX6_isWord_11 ?_
    refine z_icmp_ne (tgt := 31) F dX6_isWord_12 (by decide +kernel) (by omega) (by omega) (fun c11 => ?_) (fun c11 => ?_)
    · refine z_iconst F dX6_isWord_31 ?_
      exact hret _ _ 32 _ ⟨by omega, by omega⟩ ⟨hI, hW⟩ ⟨⟨by omega, by omega⟩, rfl, (by omega), (iwC_e (k := 0) (iwC_n (by rw [wl_a, tkC_lt (c := 1) (by decide) (by decide)]; omega)) (fun q => by exfalso; omega) (by omega) (by omega))⟩ dX6_isWord_32
    · refine z_aload_n F dX6_isWord_15 rfl (q := 0) rfl ?_
      refine gf_X6_33 F hI gs_18 rfl bd_18_5 dX6_isWord_16 (fun v12 ev12 av12 bv12 => ?_)
      have zv12 : u4 = v12 := eu4.trans ev12.symm
      subst zv12
      refine z_aload_n F dX6_isWord_19 rfl (q := 0) rfl ?_
      refine gf_X6_57 F hI gs_18 rfl bd_18_6 dX6_isWord_20 (fun v13 ev13 av13 bv13 => ?_)
      have zv13 : u5 = v13 := eu5.trans ev13.symm
      subst zv13
      refine z_isub F dX6_isWord_23 ?_
      refine z_aload_n F dX6_isWord_24 rfl (q := 1) rfl ?_
      refine zvs_i (i := 20) (rest := [ii (u4 - u5)]) F (kS_len l M ⟨hI, hW⟩ 20 (by decide)) cs_X6_75 (by decide) (by decide) (by decide) rfl rfl rfl (Nat.le_of_ble_eq_true rfl) dX6_isWord_25 (fun v14 M9 rv14 hI9 pv14 => ?_)
      obtain ⟨ev14, rfl⟩ := pv14
      obtain rfl : v14 = 1 := ev14.trans (show ((sbyt.getD 20 []).length : Int) = 1 from by decide)
      clear hI9
      refine z_icmp_eq (tgt := 33) F dX6_isWord_28 (by decide +kernel) (by omega) (by omega) (fun c15 => ?_) (fun c15 => ?_)
      · refine z_iconst F dX6_isWord_33 ?_
        refine z_istore_n F dX6_isWord_34 rfl (by decide) (ls' := [(2, ii 0), (0, .ref (ad 18)), (1, .ref (ad 1020))]) rfl ?_
        refine z_loc [1, 2, 0] (ls' := [(0, .ref (ad 18)), (1, .ref (ad 1020)), (2, ii 0)]) rfl ?_
        suffices key35 : ∀ (n : Nat) (y17 : Int), 0 ≤ y17 → y17 ≤ 1 → (Iw_C M w_a 1 y17) → 1 - y17 < (n : Int) → Z D cy ad p l e (RMh 5) s m args below meth c A 3 0 0 Q 35 [(0, .ref (ad 18)), (1, .ref (ad 1020)), (2, ii y17)] [] M from key35 2 0 (by omega) (by omega) iwC_0 (by omega)
        intro n35
        induction n35 with
        | zero => intro y17 ay17 by17 i35_0 hn35; exfalso; omega
        | succ n35 ih35 =>
          intro y17 ay17 by17 i35_0 hn35
          refine z_iload_n F dX6_isWord_35 rfl (q := 2) rfl ?_
          refine z_aload_n F dX6_isWord_36 rfl (q := 1) rfl ?_
          refine zvs_i (i := 20) (rest := [ii y17]) F (kS_len l M ⟨hI, hW⟩ 20 (by decide)) cs_X6_75 (by decide) (by decide) (by decide) rfl rfl rfl (Nat.le_of_ble_eq_true rfl) dX6_isWord_37 (fun v18 M9 rv18 hI9 pv18 => ?_)
          obtain ⟨ev18, rfl⟩ := pv18
          obtain rfl : v18 = 1 := ev18.trans (show ((sbyt.getD 20 []).length : Int) = 1 from by decide)
          clear hI9
          refine z_icmp_ge (tgt := 70) F dX6_isWord_40 (by decide +kernel) (by omega) (by omega) (fun c19 => ?_) (fun c19 => ?_)
          · refine z_iconst F dX6_isWord_70 ?_
            exact hret _ _ 71 _ ⟨by omega, by omega⟩ ⟨hI, hW⟩ ⟨⟨by omega, by omega⟩, rfl, (by omega), (iwC_e i35_0 (fun q => by rw [wl_a, tkC_lt (c := 1) (by decide) (by decide)]; omega) (by omega) (by omega))⟩ dX6_isWord_71
          · refine z_aload_n F dX6_isWord_43 rfl (q := 0) rfl ?_
            refine rf_X6_22 F gs_18 rfl dX6_isWord_44 ?_
            refine z_aload_n F dX6_isWord_47 rfl (q := 0) rfl ?_
            refine gf_X6_57 F hI gs_18 rfl bd_18_6 dX6_isWord_48 (fun v20 ev20 av20 bv20 => ?_)
            have zv20 : u5 = v20 := eu5.trans ev20.symm
            subst zv20
            refine z_iload_n F dX6_isWord_51 rfl (q := 2) rfl ?_
            refine z_iadd F dX6_isWord_52 ?_
            have k21 : 0 ≤ (u5 + y17) ∧ (u5 + y17) ≤ 899 := by omega
            refine z_bald F hI gs_1 (by omega) (by omega) (by decide) bd_1 dX6_isWord_53 (fun v22 (ev22 : v22 = M 1 _) av22 bv22 => ?_)
            refine z_aload_n F dX6_isWord_54 rfl (q := 1) rfl ?_
            refine z_iload_n F dX6_isWord_55 rfl (q := 2) rfl ?_
            refine zvs_i (i := 20) (rest := [ii v22]) F (kS_chr l M ⟨hI, hW⟩ 20 (by decide) y17 (by omega) (show y17 < ((sbyt.getD 20 []).length : Int) from by rw [show ((sbyt.getD 20 []).length : Int) = 1 from by decide]; omega)) cs_X6_78 (by decide) (by decide) (by decide) rfl rfl rfl (Nat.le_of_ble_eq_true rfl) dX6_isWord_56 (fun v23 M9 rv23 hI9 pv23 => ?_)
            obtain ⟨⟨av23, bv23, ev23⟩, rfl⟩ := pv23
            clear hI9
            refine z_icmp_eq (tgt := 64) F dX6_isWord_59 (by decide +kernel) (by omega) (by omega) (fun c24 => ?_) (fun c24 => ?_)
            · refine z_iincN F dX6_isWord_64 (q := 2) rfl (by decide) (fun v25 ev25 => ?_)
              refine z_eq (ls' := [(2, ii v25), (0, .ref (ad 18)), (1, .ref (ad 1020))]) rfl rfl rfl ?_
              refine z_goto (tgt := 35) F dX6_isWord_67 (by decide +kernel) ?_
              refine z_loc [1, 2, 0] (ls' := [(0, .ref (ad 18)), (1, .ref (ad 1020)), (2, ii v25)]) rfl ?_
              exact ih35 v25 (by omega) (by omega) (by rw [show v25 = y17 + 1 from by omega]; exact iwC_s (z' := 1) (c1 := v22 % 256) i35_0 rfl (by omega) (by rw [wl_a]; omega) (by rw [wl_a]; omega) (show v22 % 256 = bC M ((M 18 6).toNat + (y17).toNat) from by show _ = M 1 _ % 256; rw [show (M 18 6).toNat + (y17).toNat = ((u5 + y17)).toNat from by omega, ← ev22]) (ev23.trans (sw_20 (y17).toNat (by omega)).1) (by have g9 := (sw_20 (y17).toNat (by omega)).2; omega)) (by omega)
            · refine z_iconst F dX6_isWord_62 ?_
              exact hret _ _ 63 _ ⟨by omega, by omega⟩ ⟨hI, hW⟩ ⟨⟨by omega, by omega⟩, rfl, (by omega), (iwC_e (iwC_s (z' := 0) (c1 := v22 % 256) i35_0 rfl (by omega) (by rw [wl_a]; omega) (by rw [wl_a]; omega) (show v22 % 256 = bC M ((M 18 6).toNat + (y17).toNat) from by show _ = M 1 _ % 256; rw [show (M 18 6).toNat + (y17).toNat = ((u5 + y17)).toNat from by omega, ← ev22]) (ev23.trans (sw_20 (y17).toNat (by omega)).1) (by have g9 := (sw_20 (y17).toNat (by omega)).2; omega)) (fun q => by exfalso; omega) (by omega) (by omega))⟩ dX6_isWord_63
      · refine z_iconst F dX6_isWord_31 ?_
        exact hret _ _ 32 _ ⟨by omega, by omega⟩ ⟨hI, hW⟩ ⟨⟨by omega, by omega⟩, rfl, (by omega), (iwC_e (k := 0) (iwC_n (by rw [wl_a, tkC_lt (c := 1) (by decide) (by decide)]; omega)) (fun q => by exfalso; omega) (by omega) (by omega))⟩ dX6_isWord_32
set_option maxHeartbeats 4000000 in
set_option maxRecDepth 4000 in
theorem kp_X6_isWord_18_1021 (l : Launch) (M : Mem) (hJ : Iw M) (hp0 : M 18 6 ≤ M 18 5 ∧ M 18 5 ≤ M 18 4 ∧ M 18 7 ≤ 4 * (M 18 5 - M 18 6)) : CI l yX6_isWord cX6_isWord 3 (some .boolean) 5 (fun ad => [.ref (ad 18), .ref (ad 1021)]) M (fun z M' => (0 ≤ z ∧ z ≤ 1) ∧ M = M' ∧ (M 18 6 + z ≤ M 18 5 ∧ (z = 1 → M 18 1 = 0)) ∧ (WZ z (isW w_b (absC M)))) := by
  obtain ⟨hI, hW⟩ := hJ
  refine en_z (by decide +kernel) (fun ad => by exact Nat.le_of_ble_eq_true rfl) (fun D cy ad A p e s m args below meth c Q F hret => ?_)
  refine z_eq (ls' := [(0, .ref (ad 18)), (1, .ref (ad 1021))]) rfl rfl rfl ?_
  obtain ⟨u1, eu1⟩ : ∃ v : Int, v = M 18 1 := ⟨_, rfl⟩
  have ku1 : (-2147483648) ≤ u1 ∧ u1 ≤ 2147483647 := by have := hI.at (show Bd 18 1 = (-2147483648, 2147483647) from rfl); omega
  obtain ⟨u2, eu2⟩ : ∃ v : Int, v = M 18 2 := ⟨_, rfl⟩
  have ku2 : (-2147483648) ≤ u2 ∧ u2 ≤ 2147483647 := by have := hI.at (show Bd 18 2 = (-2147483648, 2147483647) from rfl); omega
  obtain ⟨u3, eu3⟩ : ∃ v : Int, v = M 18 4 := ⟨_, rfl⟩
  have ku3 : 0 ≤ u3 ∧ u3 ≤ 900 := by have := hI.at (show Bd 18 4 = (0, 900) from rfl); omega
  obtain ⟨u4, eu4⟩ : ∃ v : Int, v = M 18 5 := ⟨_, rfl⟩
  have ku4 : 0 ≤ u4 ∧ u4 ≤ 900 := by have := hI.at (show Bd 18 5 = (0, 900) from rfl); omega
  obtain ⟨u5, eu5⟩ : ∃ v : Int, v = M 18 6 := ⟨_, rfl⟩
  have ku5 : 0 ≤ u5 ∧ u5 ≤ 900 := by have := hI.at (show Bd 18 6 = (0, 900) from rfl); omega
  obtain ⟨u6, eu6⟩ : ∃ v : Int, v = M 18 7 := ⟨_, rfl⟩
  have ku6 : 0 ≤ u6 ∧ u6 ≤ 4 := by have := hI.at (show Bd 18 7 = (0, 4) from rfl); omega
  obtain ⟨u7, eu7⟩ : ∃ v : Int, v = M 18 8 := ⟨_, rfl⟩
  have ku7 : (-2147483648) ≤ u7 ∧ u7 ≤ 2147483647 := by have := hI.at (show Bd 18 8 = (-2147483648, 2147483647) from rfl); omega
  refine z_aload_n F dX6_isWord_0 rfl (q := 0) rfl ?_
  refine gf_X6_36 F hI gs_18 rfl bd_18_1 dX6_isWord_1 (fun v8 ev8 av8 bv8 => ?_)
  have zv8 : u1 = v8 := eu1.trans ev8.symm
  subst zv8
  refine z_if_ne (tgt := 31) F dX6_isWord_4 (by decide +kernel) (by omega) (fun c9 => ?_) (fun c9 => ?_)
  · refine z_iconst F dX6_isWord_31 ?_
    exact hret _ _ 32 _ ⟨by omega, by omega⟩ ⟨hI, hW⟩ ⟨⟨by omega, by omega⟩, rfl, (by omega), (iwC_e (k := 0) (iwC_n (by rw [wl_b, tkC_lt (c := 1) (by decide) (by decide)]; omega)) (fun q => by exfalso; omega) (by omega) (by omega))⟩ dX6_isWord_32
  · refine z_aload_n F dX6_isWord_7 rfl (q := 0) rfl ?_
    refine gf_X6_48 F hI gs_18 rfl bd_18_7 dX6_isWord_8 (fun v10 ev10 av10 bv10 => ?_)
    have zv10 : u6 = v10 := eu6.trans ev10.symm
    subst zv10
    refine z_iconst F dX6_isWord_11 ?_
    refine z_icmp_ne (tgt := 31) F dX6_isWord_12 (by decide +kernel) (by omega) (by omega) (fun c11 => ?_) (fun c11 => ?_)
    · refine z_iconst F dX6_isWord_31 ?_
      exact hret _ _ 32 _ ⟨by omega, by omega⟩ ⟨hI, hW⟩ ⟨⟨by omega, by omega⟩, rfl, (by omega), (iwC_e (k := 0) (iwC_n (by rw [wl_b, tkC_lt (c := 1) (by decide) (by decide)]; omega)) (fun q => by exfalso; omega) (by omega) (by omega))⟩ dX6_isWord_32
    · refine z_aload_n F dX6_isWord_15 rfl (q := 0) rfl ?_
      refine gf_X6_33 F hI gs_18 rfl bd_18_5 dX6_isWord_16 (fun v12 ev12 av12 bv12 => ?_)
      have zv12 : u4 = v12 := eu4.trans ev12.symm
      subst zv12
      refine z_aload_n F dX6_isWord_19 rfl (q := 0) rfl ?_
      refine gf_X6_57 F hI gs_18 rfl bd_18_6 dX6_isWord_20 (fun v13 ev13 av13 bv13 => ?_)
      have zv13 : u5 = v13 := eu5.trans ev13.symm
      subst zv13
      refine z_isub F dX6_isWord_23 ?_
      refine z_aload_n F dX6_isWord_24 rfl (q := 1) rfl ?_
      refine zvs_i (i := 21) (rest := [ii (u4 - u5)]) F (kS_len l M ⟨hI, hW⟩ 21 (by decide)) cs_X6_75 (by decide) (by decide) (by decide) rfl rfl rfl (Nat.le_of_ble_eq_true rfl) dX6_isWord_25 (fun v14 M9 rv14 hI9 pv14 => ?_)
      obtain ⟨ev14, rfl⟩ := pv14
      obtain rfl : v14 = 1 := ev14.trans (show ((sbyt.getD 21 []).length : Int) = 1 from by decide)
      clear hI9
      refine z_icmp_eq (tgt := 33) F dX6_isWord_28 (by decide +kernel) (by omega) (by omega) (fun c15 => ?_) (fun c15 => ?_)
      · refine z_iconst F dX6_isWord_33 ?_
        refine z_istore_n F dX6_isWord_34 rfl (by decide) (ls' := [(2, ii 0), (0, .ref (ad 18)), (1, .ref (ad 1021))]) rfl ?_
        refine z_loc [1, 2, 0] (ls' := [(0, .ref (ad 18)), (1, .ref (ad 1021)), (2, ii 0)]) rfl ?_
        suffices key35 : ∀ (n : Nat) (y17 : Int), 0 ≤ y17 → y17 ≤ 1 → (Iw_C M w_b 1 y17) → 1 - y17 < (n : Int) → Z D cy ad p l e (RMh 5) s m args below meth c A 3 0 0 Q 35 [(0, .ref (ad 18)), (1, .ref (ad 1021)), (2, ii y17)] [] M from key35 2 0 (by omega) (by omega) iwC_0 (by omega)
        intro n35
        induction n35 with
        | zero => intro y17 ay17 by17 i35_0 hn35; exfalso; omega
        | succ n35 ih35 =>
          intro y17 ay17 by17 i35_0 hn35
          refine z_iload_n F dX6_isWord_35 rfl (q := 2) rfl ?_
          refine z_aload_n F dX6_isWord_36 rfl (q := 1) rfl ?_
          refine zvs_i (i := 21) (rest := [ii y17]) F (kS_len l M ⟨hI, hW⟩ 21 (by decide)) cs_X6_75 (by decide) (by decide) (by decide) rfl rfl rfl (Nat.le_of_ble_eq_true rfl) dX6_isWord_37 (fun v18 M9 rv18 hI9 pv18 => ?_)
          obtain ⟨ev18, rfl⟩ := pv18
          obtain rfl : v18 = 1 := ev18.trans (show ((sbyt.getD 21 []).length : Int) = 1 from by decide)
          clear hI9
          refine z_icmp_ge (tgt := 70) F dX6_isWord_40 (by decide +kernel) (by omega) (by omega) (fun c19 => ?_) (fun c19 => ?_)
          · refine z_iconst F dX6_isWord_70 ?_
            exact hret _ _ 71 _ ⟨by omega, by omega⟩ ⟨hI, hW⟩ ⟨⟨by omega, by omega⟩, rfl, (by omega), (iwC_e i35_0 (fun q => by rw [wl_b, tkC_lt (c := 1) (by decide) (by decide)]; omega) (by omega) (by omega))⟩ dX6_isWord_71
          · refine z_aload_n F dX6_isWord_43 rfl (q := 0) rfl ?_
            refine rf_X6_22 F gs_18 rfl dX6_isWord_44 ?_
            refine z_aload_n F dX6_isWord_47 rfl (q := 0) rfl ?_
            refine gf_X6_57 F hI gs_18 rfl bd_18_6 dX6_isWord_48 (fun v20 ev20 av20 bv20 => ?_)
            have zv20 : u5 = v20 := eu5.trans ev20.symm
            subst zv20
            refine z_iload_n F dX6_isWord_51 rfl (q := 2) rfl ?_
            refine z_iadd F dX6_isWord_52 ?_
            have k21 : 0 ≤ (u5 + y17) ∧ (u5 + y17) ≤ 899 := by omega
            refine z_bald F hI gs_1 (by omega) (by omega) (by decide) bd_1 dX6_isWord_53 (fun v22 (ev22 : v22 = M 1 _) av22 bv22 => ?_)
            refine z_aload_n F dX6_isWord_54 rfl (q := 1) rfl ?_
            refine z_iload_n F dX6_isWord_55 rfl (q := 2) rfl ?_
            refine zvs_i (i := 21) (rest := [ii v22]) F (kS_chr l M ⟨hI, hW⟩ 21 (by decide) y17 (by omega) (show y17 < ((sbyt.getD 21 []).length : Int) from by rw [show ((sbyt.getD 21 []).length : Int) = 1 from by decide]; omega)) cs_X6_78 (by decide) (by decide) (by decide) rfl rfl rfl (Nat.le_of_ble_eq_true rfl) dX6_isWord_56 (fun v23 M9 rv23 hI9 pv23 => ?_)
            obtain ⟨⟨av23, bv23, ev23⟩, rfl⟩ := pv23
            clear hI9
            refine z_icmp_eq (tgt := 64) F dX6_isWord_59 (by decide +kernel) (by omega) (by omega) (fun c24 => ?_) (fun c24 => ?_)
            · refine z_iincN F dX6_isWord_64 (q := 2) rfl (by decide) (fun v25 ev25 => ?_)
              refine z_eq (ls' := [(2, ii v25), (0, .ref (ad 18)), (1, .ref (ad 1021))]) rfl rfl rfl ?_
              refine z_goto (tgt := 35) F dX6_isWord_67 (by decide +kernel) ?_
              refine z_loc [1, 2, 0] (ls' := [(0, .ref (ad 18)), (1, .ref (ad 1021)), (2, ii v25)]) rfl ?_
              exact ih35 v25 (by omega) (by omega) (by rw [show v25 = y17 + 1 from by omega]; exact iwC_s (z' := 1) (c1 := v22 % 256) i35_0 rfl (by omega) (by rw [wl_b]; omega) (by rw [wl_b]; omega) (show v22 % 256 = bC M ((M 18 6).toNat + (y17).toNat) from by show _ = M 1 _ % 256; rw [show (M 18 6).toNat + (y17).toNat = ((u5 + y17)).toNat from by omega, ← ev22]) (ev23.trans (sw_21 (y17).toNat (by omega)).1) (by have g9 := (sw_21 (y17).toNat (by omega)).2; omega)) (by omega)
            · refine z_iconst F dX6_isWord_62 ?_
              exact hret _ _ 63 _ ⟨by omega, by omega⟩ ⟨hI, hW⟩ ⟨⟨by omega, by omega⟩, rfl, (by omega), (iwC_e (iwC_s (z' := 0) (c1 := v22 % 256) i35_0 rfl (by omega) (by rw [wl_b]; omega) (by rw [wl_b]; omega) (show v22 % 256 = bC M ((M 18 6).toNat + (y17).toNat) from by show _ = M 1 _ % 256; rw [show (M 18 6).toNat + (y17).toNat = ((u5 + y17)).toNat from by omega, ← ev22]) (ev23.trans (sw_21 (y17).toNat (by omega)).1) (by have g9 := (sw_21 (y17).toNat (by omega)).2; omega)) (fun q => by exfalso; omega) (by omega) (by omega))⟩ dX6_isWord_63
      · refine z_iconst F dX6_isWord_31 ?_
        exact hret _ _ 32 _ ⟨by omega, by omega⟩ ⟨hI, hW⟩ ⟨⟨by omega, by omega⟩, rfl, (by omega), (iwC_e (k := 0) (iwC_n (by rw [wl_b, tkC_lt (c := 1) (by decide) (by decide)]; omega)) (fun q => by exfalso; omega) (by omega) (by omega))⟩ dX6_isWord_32
set_option maxHeartbeats 4000000 in
set_option maxRecDepth 4000 in
theorem kp_X6_isWord_18_1022 (l : Launch) (M : Mem) (hJ : Iw M) (hp0 : M 18 6 ≤ M 18 5 ∧ M 18 5 ≤ M 18 4 ∧ M 18 7 ≤ 4 * (M 18 5 - M 18 6)) : CI l yX6_isWord cX6_isWord 3 (some .boolean) 5 (fun ad => [.ref (ad 18), .ref (ad 1022)]) M (fun z M' => (0 ≤ z ∧ z ≤ 1) ∧ M = M' ∧ (M 18 6 + z ≤ M 18 5 ∧ (z = 1 → M 18 1 = 0)) ∧ (WZ z (isW w_odda (absC M)))) := by
  obtain ⟨hI, hW⟩ := hJ
  refine en_z (by decide +kernel) (fun ad => by exact Nat.le_of_ble_eq_true rfl) (fun D cy ad A p e s m args below meth c Q F hret => ?_)
  refine z_eq (ls' := [(0, .ref (ad 18)), (1, .ref (ad 1022))]) rfl rfl rfl ?_
  obtain ⟨u1, eu1⟩ : ∃ v : Int, v = M 18 1 := ⟨_, rfl⟩
  have ku1 : (-2147483648) ≤ u1 ∧ u1 ≤ 2147483647 := by have := hI.at (show Bd 18 1 = (-2147483648, 2147483647) from rfl); omega
  obtain ⟨u2, eu2⟩ : ∃ v : Int, v = M 18 2 := ⟨_, rfl⟩
  have ku2 : (-2147483648) ≤ u2 ∧ u2 ≤ 2147483647 := by have := hI.at (show Bd 18 2 = (-2147483648, 2147483647) from rfl); omega
  obtain ⟨u3, eu3⟩ : ∃ v : Int, v = M 18 4 := ⟨_, rfl⟩
  have ku3 : 0 ≤ u3 ∧ u3 ≤ 900 := by have := hI.at (show Bd 18 4 = (0, 900) from rfl); omega
  obtain ⟨u4, eu4⟩ : ∃ v : Int, v = M 18 5 := ⟨_, rfl⟩
  have ku4 : 0 ≤ u4 ∧ u4 ≤ 900 := by have := hI.at (show Bd 18 5 = (0, 900) from rfl); omega
  obtain ⟨u5, eu5⟩ : ∃ v : Int, v = M 18 6 := ⟨_, rfl⟩
  have ku5 : 0 ≤ u5 ∧ u5 ≤ 900 := by have := hI.at (show Bd 18 6 = (0, 900) from rfl); omega
  obtain ⟨u6, eu6⟩ : ∃ v : Int, v = M 18 7 := ⟨_, rfl⟩
  have ku6 : 0 ≤ u6 ∧ u6 ≤ 4 := by have := hI.at (show Bd 18 7 = (0, 4) from rfl); omega
  obtain ⟨u7, eu7⟩ : ∃ v : Int, v = M 18 8 := ⟨_, rfl⟩
  have ku7 : (-2147483648) ≤ u7 ∧ u7 ≤ 2147483647 := by have := hI.at (show Bd 18 8 = (-2147483648, 2147483647) from rfl); omega
  refine z_aload_n F dX6_isWord_0 rfl (q := 0) rfl ?_
  refine gf_X6_36 F hI gs_18 rfl bd_18_1 dX6_isWord_1 (fun v8 ev8 av8 bv8 => ?_)
  have zv8 : u1 = v8 := eu1.trans ev8.symm
  subst zv8
  refine z_if_ne (tgt := 31) F dX6_isWord_4 (by decide +kernel) (by omega) (fun c9 => ?_) (fun c9 => ?_)
  · refine z_iconst F dX6_isWord_31 ?_
    exact hret _ _ 32 _ ⟨by omega, by omega⟩ ⟨hI, hW⟩ ⟨⟨by omega, by omega⟩, rfl, (by omega), (iwC_e (k := 0) (iwC_n (by rw [wl_odda, tkC_lt (c := 1) (by decide) (by decide)]; omega)) (fun q => by exfalso; omega) (by omega) (by omega))⟩ dX6_isWord_32
  · refine z_aload_n F dX6_isWord_7 rfl (q := 0) rfl ?_
    refine gf_X6_48 F hI gs_18 rfl bd_18_7 dX6_isWord_8 (fun v10 ev10 av10 bv10 => ?_)
    have zv10 : u6 = v10 := eu6.trans ev10.symm
    subst zv10
    refine z_iconst F dX6_isWord_11 ?_
    refine z_icmp_ne (tgt := 31) F dX6_isWord_12 (by decide +kernel) (by omega) (by omega) (fun c11 => ?_) (fun c11 => ?_)
    · refine z_iconst F dX6_isWord_31 ?_
      exact hret _ _ 32 _ ⟨by omega, by omega⟩ ⟨hI, hW⟩ ⟨⟨by omega, by omega⟩, rfl, (by omega), (iwC_e (k := 0) (iwC_n (by rw [wl_odda, tkC_lt (c := 1) (by decide) (by decide)]; omega)) (fun q => by exfalso; omega) (by omega) (by omega))⟩ dX6_isWord_32
    · refine z_aload_n F dX6_isWord_15 rfl (q := 0) rfl ?_
      refine gf_X6_33 F hI gs_18 rfl bd_18_5 dX6_isWord_16 (fun v12 ev12 av12 bv12 => ?_)
      have zv12 : u4 = v12 := eu4.trans ev12.symm
      subst zv12
      refine z_aload_n F dX6_isWord_19 rfl (q := 0) rfl ?_
      refine gf_X6_57 F hI gs_18 rfl bd_18_6 dX6_isWord_20 (fun v13 ev13 av13 bv13 => ?_)
      have zv13 : u5 = v13 := eu5.trans ev13.symm
      subst zv13
      refine z_isub F dX6_isWord_23 ?_
      refine z_aload_n F dX6_isWord_24 rfl (q := 1) rfl ?_
      refine zvs_i (i := 22) (rest := [ii (u4 - u5)]) F (kS_len l M ⟨hI, hW⟩ 22 (by decide)) cs_X6_75 (by decide) (by decide) (by decide) rfl rfl rfl (Nat.le_of_ble_eq_true rfl) dX6_isWord_25 (fun v14 M9 rv14 hI9 pv14 => ?_)
      obtain ⟨ev14, rfl⟩ := pv14
      obtain rfl : v14 = 4 := ev14.trans (show ((sbyt.getD 22 []).length : Int) = 4 from by decide)
      clear hI9
      refine z_icmp_eq (tgt := 33) F dX6_isWord_28 (by decide +kernel) (by omega) (by omega) (fun c15 => ?_) (fun c15 => ?_)
      · refine z_iconst F dX6_isWord_33 ?_
        refine z_istore_n F dX6_isWord_34 rfl (by decide) (ls' := [(2, ii 0), (0, .ref (ad 18)), (1, .ref (ad 1022))]) rfl ?_
        refine z_loc [1, 2, 0] (ls' := [(0, .ref (ad 18)), (1, .ref (ad 1022)), (2, ii 0)]) rfl ?_
        suffices key35 : ∀ (n : Nat) (y17 : Int), 0 ≤ y17 → y17 ≤ 4 → (Iw_C M w_odda 1 y17) → 4 - y17 < (n : Int) → Z D cy ad p l e (RMh 5) s m args below meth c A 3 0 0 Q 35 [(0, .ref (ad 18)), (1, .ref (ad 1022)), (2, ii y17)] [] M from key35 5 0 (by omega) (by omega) iwC_0 (by omega)
        intro n35
        induction n35 with
        | zero => intro y17 ay17 by17 i35_0 hn35; exfalso; omega
        | succ n35 ih35 =>
          intro y17 ay17 by17 i35_0 hn35
          refine z_iload_n F dX6_isWord_35 rfl (q := 2) rfl ?_
          refine z_aload_n F dX6_isWord_36 rfl (q := 1) rfl ?_
          refine zvs_i (i := 22) (rest := [ii y17]) F (kS_len l M ⟨hI, hW⟩ 22 (by decide)) cs_X6_75 (by decide) (by decide) (by decide) rfl rfl rfl (Nat.le_of_ble_eq_true rfl) dX6_isWord_37 (fun v18 M9 rv18 hI9 pv18 => ?_)
          obtain ⟨ev18, rfl⟩ := pv18
          obtain rfl : v18 = 4 := ev18.trans (show ((sbyt.getD 22 []).length : Int) = 4 from by decide)
          clear hI9
          refine z_icmp_ge (tgt := 70) F dX6_isWord_40 (by decide +kernel) (by omega) (by omega) (fun c19 => ?_) (fun c19 => ?_)
          · refine z_iconst F dX6_isWord_70 ?_
            exact hret _ _ 71 _ ⟨by omega, by omega⟩ ⟨hI, hW⟩ ⟨⟨by omega, by omega⟩, rfl, (by omega), (iwC_e i35_0 (fun q => by rw [wl_odda, tkC_lt (c := 1) (by decide) (by decide)]; omega) (by omega) (by omega))⟩ dX6_isWord_71
          · refine z_aload_n F dX6_isWord_43 rfl (q := 0) rfl ?_
            refine rf_X6_22 F gs_18 rfl dX6_isWord_44 ?_
            refine z_aload_n F dX6_isWord_47 rfl (q := 0) rfl ?_
            refine gf_X6_57 F hI gs_18 rfl bd_18_6 dX6_isWord_48 (fun v20 ev20 av20 bv20 => ?_)
            have zv20 : u5 = v20 := eu5.trans ev20.symm
            subst zv20
            refine z_iload_n F dX6_isWord_51 rfl (q := 2) rfl ?_
            refine z_iadd F dX6_isWord_52 ?_
            have k21 : 0 ≤ (u5 + y17) ∧ (u5 + y17) ≤ 899 := by omega
            refine z_bald F hI gs_1 (by omega) (by omega) (by decide) bd_1 dX6_isWord_53 (fun v22 (ev22 : v22 = M 1 _) av22 bv22 => ?_)
            refine z_aload_n F dX6_isWord_54 rfl (q := 1) rfl ?_
            refine z_iload_n F dX6_isWord_55 rfl (q := 2) rfl ?_
            refine zvs_i (i := 22) (rest := [ii v22]) F (kS_chr l M ⟨hI, hW⟩ 22 (by decide) y17 (by omega) (show y17 < ((sbyt.getD 22 []).length : Int) from by rw [show ((sbyt.getD 22 []).length : Int) = 4 from by decide]; omega)) cs_X6_78 (by decide) (by decide) (by decide) rfl rfl rfl (Nat.le_of_ble_eq_true rfl) dX6_isWord_56 (fun v23 M9 rv23 hI9 pv23 => ?_)
            obtain ⟨⟨av23, bv23, ev23⟩, rfl⟩ := pv23
            clear hI9
            refine z_icmp_eq (tgt := 64) F dX6_isWord_59 (by decide +kernel) (by omega) (by omega) (fun c24 => ?_) (fun c24 => ?_)
            · refine z_iincN F dX6_isWord_64 (q := 2) rfl (by decide) (fun v25 ev25 => ?_)
              refine z_eq (ls' := [(2, ii v25), (0, .ref (ad 18)), (1, .ref (ad 1022))]) rfl rfl rfl ?_
              refine z_goto (tgt := 35) F dX6_isWord_67 (by decide +kernel) ?_
              refine z_loc [1, 2, 0] (ls' := [(0, .ref (ad 18)), (1, .ref (ad 1022)), (2, ii v25)]) rfl ?_
              exact ih35 v25 (by omega) (by omega) (by rw [show v25 = y17 + 1 from by omega]; exact iwC_s (z' := 1) (c1 := v22 % 256) i35_0 rfl (by omega) (by rw [wl_odda]; omega) (by rw [wl_odda]; omega) (show v22 % 256 = bC M ((M 18 6).toNat + (y17).toNat) from by show _ = M 1 _ % 256; rw [show (M 18 6).toNat + (y17).toNat = ((u5 + y17)).toNat from by omega, ← ev22]) (ev23.trans (sw_22 (y17).toNat (by omega)).1) (by have g9 := (sw_22 (y17).toNat (by omega)).2; omega)) (by omega)
            · refine z_iconst F dX6_isWord_62 ?_
              exact hret _ _ 63 _ ⟨by omega, by omega⟩ ⟨hI, hW⟩ ⟨⟨by omega, by omega⟩, rfl, (by omega), (iwC_e (iwC_s (z' := 0) (c1 := v22 % 256) i35_0 rfl (by omega) (by rw [wl_odda]; omega) (by rw [wl_odda]; omega) (show v22 % 256 = bC M ((M 18 6).toNat + (y17).toNat) from by show _ = M 1 _ % 256; rw [show (M 18 6).toNat + (y17).toNat = ((u5 + y17)).toNat from by omega, ← ev22]) (ev23.trans (sw_22 (y17).toNat (by omega)).1) (by have g9 := (sw_22 (y17).toNat (by omega)).2; omega)) (fun q => by exfalso; omega) (by omega) (by omega))⟩ dX6_isWord_63
      · refine z_iconst F dX6_isWord_31 ?_
        exact hret _ _ 32 _ ⟨by omega, by omega⟩ ⟨hI, hW⟩ ⟨⟨by omega, by omega⟩, rfl, (by omega), (iwC_e (k := 0) (iwC_n (by rw [wl_odda, tkC_lt (c := 1) (by decide) (by decide)]; omega)) (fun q => by exfalso; omega) (by omega) (by omega))⟩ dX6_isWord_32
set_option maxHeartbeats 4000000 in
set_option maxRecDepth 4000 in
theorem kp_X6_isWord_18_1023 (l : Launch) (M : Mem) (hJ : Iw M) (hp0 : M 18 6 ≤ M 18 5 ∧ M 18 5 ≤ M 18 4 ∧ M 18 7 ≤ 4 * (M 18 5 - M 18 6)) : CI l yX6_isWord cX6_isWord 3 (some .boolean) 5 (fun ad => [.ref (ad 18), .ref (ad 1023)]) M (fun z M' => (0 ≤ z ∧ z ≤ 1) ∧ M = M' ∧ (M 18 6 + z ≤ M 18 5 ∧ (z = 1 → M 18 1 = 0)) ∧ (WZ z (isW w_oddb (absC M)))) := by
  obtain ⟨hI, hW⟩ := hJ
  refine en_z (by decide +kernel) (fun ad => by exact Nat.le_of_ble_eq_true rfl) (fun D cy ad A p e s m args below meth c Q F hret => ?_)
  refine z_eq (ls' := [(0, .ref (ad 18)), (1, .ref (ad 1023))]) rfl rfl rfl ?_
  obtain ⟨u1, eu1⟩ : ∃ v : Int, v = M 18 1 := ⟨_, rfl⟩
  have ku1 : (-2147483648) ≤ u1 ∧ u1 ≤ 2147483647 := by have := hI.at (show Bd 18 1 = (-2147483648, 2147483647) from rfl); omega
  obtain ⟨u2, eu2⟩ : ∃ v : Int, v = M 18 2 := ⟨_, rfl⟩
  have ku2 : (-2147483648) ≤ u2 ∧ u2 ≤ 2147483647 := by have := hI.at (show Bd 18 2 = (-2147483648, 2147483647) from rfl); omega
  obtain ⟨u3, eu3⟩ : ∃ v : Int, v = M 18 4 := ⟨_, rfl⟩
  have ku3 : 0 ≤ u3 ∧ u3 ≤ 900 := by have := hI.at (show Bd 18 4 = (0, 900) from rfl); omega
  obtain ⟨u4, eu4⟩ : ∃ v : Int, v = M 18 5 := ⟨_, rfl⟩
  have ku4 : 0 ≤ u4 ∧ u4 ≤ 900 := by have := hI.at (show Bd 18 5 = (0, 900) from rfl); omega
  obtain ⟨u5, eu5⟩ : ∃ v : Int, v = M 18 6 := ⟨_, rfl⟩
  have ku5 : 0 ≤ u5 ∧ u5 ≤ 900 := by have := hI.at (show Bd 18 6 = (0, 900) from rfl); omega
  obtain ⟨u6, eu6⟩ : ∃ v : Int, v = M 18 7 := ⟨_, rfl⟩
  have ku6 : 0 ≤ u6 ∧ u6 ≤ 4 := by have := hI.at (show Bd 18 7 = (0, 4) from rfl); omega
  obtain ⟨u7, eu7⟩ : ∃ v : Int, v = M 18 8 := ⟨_, rfl⟩
  have ku7 : (-2147483648) ≤ u7 ∧ u7 ≤ 2147483647 := by have := hI.at (show Bd 18 8 = (-2147483648, 2147483647) from rfl); omega
  refine z_aload_n F dX6_isWord_0 rfl (q := 0) rfl ?_
  refine gf_X6_36 F hI gs_18 rfl bd_18_1 dX6_isWord_1 (fun v8 ev8 av8 bv8 => ?_)
  have zv8 : u1 = v8 := eu1.trans ev8.symm
  subst zv8
  refine z_if_ne (tgt := 31) F dX6_isWord_4 (by decide +kernel) (by omega) (fun c9 => ?_) (fun c9 => ?_)
  · refine z_iconst F dX6_isWord_31 ?_
    exact hret _ _ 32 _ ⟨by omega, by omega⟩ ⟨hI, hW⟩ ⟨⟨by omega, by omega⟩, rfl, (by omega), (iwC_e (k := 0) (iwC_n (by rw [wl_oddb, tkC_lt (c := 1) (by decide) (by decide)]; omega)) (fun q => by exfalso; omega) (by omega) (by omega))⟩ dX6_isWord_32
  · refine z_aload_n F dX6_isWord_7 rfl (q := 0) rfl ?_
    refine gf_X6_48 F hI gs_18 rfl bd_18_7 dX6_isWord_8 (fun v10 ev10 av10 bv10 => ?_)
    have zv10 : u6 = v10 := eu6.trans ev10.symm
    subst zv10
    refine z_iconst F dX6_isWord_11 ?_
    refine z_icmp_ne (tgt := 31) F dX6_isWord_12 (by decide +kernel) (by omega) (by omega) (fun c11 => ?_) (fun c11 => ?_)
    · refine z_iconst F dX6_isWord_31 ?_
      exact hret _ _ 32 _ ⟨by omega, by omega⟩ ⟨hI, hW⟩ ⟨⟨by omega, by omega⟩, rfl, (by omega), (iwC_e (k := 0) (iwC_n (by rw [wl_oddb, tkC_lt (c := 1) (by decide) (by decide)]; omega)) (fun q => by exfalso; omega) (by omega) (by omega))⟩ dX6_isWord_32
    · refine z_aload_n F dX6_isWord_15 rfl (q := 0) rfl ?_
      refine gf_X6_33 F hI gs_18 rfl bd_18_5 dX6_isWord_16 (fun v12 ev12 av12 bv12 => ?_)
      have zv12 : u4 = v12 := eu4.trans ev12.symm
      subst zv12
      refine z_aload_n F dX6_isWord_19 rfl (q := 0) rfl ?_
      refine gf_X6_57 F hI gs_18 rfl bd_18_6 dX6_isWord_20 (fun v13 ev13 av13 bv13 => ?_)
      have zv13 : u5 = v13 := eu5.trans ev13.symm
      subst zv13
      refine z_isub F dX6_isWord_23 ?_
      refine z_aload_n F dX6_isWord_24 rfl (q := 1) rfl ?_
      refine zvs_i (i := 23) (rest := [ii (u4 - u5)]) F (kS_len l M ⟨hI, hW⟩ 23 (by decide)) cs_X6_75 (by decide) (by decide) (by decide) rfl rfl rfl (Nat.le_of_ble_eq_true rfl) dX6_isWord_25 (fun v14 M9 rv14 hI9 pv14 => ?_)
      obtain ⟨ev14, rfl⟩ := pv14
      obtain rfl : v14 = 4 := ev14.trans (show ((sbyt.getD 23 []).length : Int) = 4 from by decide)
      clear hI9
      refine z_icmp_eq (tgt := 33) F dX6_isWord_28 (by decide +kernel) (by omega) (by omega) (fun c15 => ?_) (fun c15 => ?_)
      · refine z_iconst F dX6_isWord_33 ?_
        refine z_istore_n F dX6_isWord_34 rfl (by decide) (ls' := [(2, ii 0), (0, .ref (ad 18)), (1, .ref (ad 1023))]) rfl ?_
        refine z_loc [1, 2, 0] (ls' := [(0, .ref (ad 18)), (1, .ref (ad 1023)), (2, ii 0)]) rfl ?_
        suffices key35 : ∀ (n : Nat) (y17 : Int), 0 ≤ y17 → y17 ≤ 4 → (Iw_C M w_oddb 1 y17) → 4 - y17 < (n : Int) → Z D cy ad p l e (RMh 5) s m args below meth c A 3 0 0 Q 35 [(0, .ref (ad 18)), (1, .ref (ad 1023)), (2, ii y17)] [] M from key35 5 0 (by omega) (by omega) iwC_0 (by omega)
        intro n35
        induction n35 with
        | zero => intro y17 ay17 by17 i35_0 hn35; exfalso; omega
        | succ n35 ih35 =>
          intro y17 ay17 by17 i35_0 hn35
          refine z_iload_n F dX6_isWord_35 rfl (q := 2) rfl ?_
          refine z_aload_n F dX6_isWord_36 rfl (q := 1) rfl ?_
          refine zvs_i (i := 23) (rest := [ii y17]) F (kS_len l M ⟨hI, hW⟩ 23 (by decide)) cs_X6_75 (by decide) (by decide) (by decide) rfl rfl rfl (Nat.le_of_ble_eq_true rfl) dX6_isWord_37 (fun v18 M9 rv18 hI9 pv18 => ?_)
          obtain ⟨ev18, rfl⟩ := pv18
          obtain rfl : v18 = 4 := ev18.trans (show ((sbyt.getD 23 []).length : Int) = 4 from by decide)
          clear hI9
          refine z_icmp_ge (tgt := 70) F dX6_isWord_40 (by decide +kernel) (by omega) (by omega) (fun c19 => ?_) (fun c19 => ?_)
          · refine z_iconst F dX6_isWord_70 ?_
            exact hret _ _ 71 _ ⟨by omega, by omega⟩ ⟨hI, hW⟩ ⟨⟨by omega, by omega⟩, rfl, (by omega), (iwC_e i35_0 (fun q => by rw [wl_oddb, tkC_lt (c := 1) (by decide) (by decide)]; omega) (by omega) (by omega))⟩ dX6_isWord_71
          · refine z_aload_n F dX6_isWord_43 rfl (q := 0) rfl ?_
            refine rf_X6_22 F gs_18 rfl dX6_isWord_44 ?_
            refine z_aload_n F dX6_isWord_47 rfl (q := 0) rfl ?_
            refine gf_X6_57 F hI gs_18 rfl bd_18_6 dX6_isWord_48 (fun v20 ev20 av20 bv20 => ?_)
            have zv20 : u5 = v20 := eu5.trans ev20.symm
            subst zv20
            refine z_iload_n F dX6_isWord_51 rfl (q := 2) rfl ?_
            refine z_iadd F dX6_isWord_52 ?_
            have k21 : 0 ≤ (u5 + y17) ∧ (u5 + y17) ≤ 899 := by omega
            refine z_bald F hI gs_1 (by omega) (by omega) (by decide) bd_1 dX6_isWord_53 (fun v22 (ev22 : v22 = M 1 _) av22 bv22 => ?_)
            refine z_aload_n F dX6_isWord_54 rfl (q := 1) rfl ?_
            refine z_iload_n F dX6_isWord_55 rfl (q := 2) rfl ?_
            refine zvs_i (i := 23) (rest := [ii v22]) F (kS_chr l M ⟨hI, hW⟩ 23 (by decide) y17 (by omega) (show y17 < ((sbyt.getD 23 []).length : Int) from by rw [show ((sbyt.getD 23 []).length : Int) = 4 from by decide]; omega)) cs_X6_78 (by decide) (by decide) (by decide) rfl rfl rfl (Nat.le_of_ble_eq_true rfl) dX6_isWord_56 (fun v23 M9 rv23 hI9 pv23 => ?_)
            obtain ⟨⟨av23, bv23, ev23⟩, rfl⟩ := pv23
            clear hI9
            refine z_icmp_eq (tgt := 64) F dX6_isWord_59 (by decide +kernel) (by omega) (by omega) (fun c24 => ?_) (fun c24 => ?_)
            · refine z_iincN F dX6_isWord_64 (q := 2) rfl (by decide) (fun v25 ev25 => ?_)
              refine z_eq (ls' := [(2, ii v25), (0, .ref (ad 18)), (1, .ref (ad 1023))]) rfl rfl rfl ?_
              refine z_goto (tgt := 35) F dX6_isWord_67 (by decide +kernel) ?_
              refine z_loc [1, 2, 0] (ls' := [(0, .ref (ad 18)), (1, .ref (ad 1023)), (2, ii v25)]) rfl ?_
              exact ih35 v25 (by omega) (by omega) (by rw [show v25 = y17 + 1 from by omega]; exact iwC_s (z' := 1) (c1 := v22 % 256) i35_0 rfl (by omega) (by rw [wl_oddb]; omega) (by rw [wl_oddb]; omega) (show v22 % 256 = bC M ((M 18 6).toNat + (y17).toNat) from by show _ = M 1 _ % 256; rw [show (M 18 6).toNat + (y17).toNat = ((u5 + y17)).toNat from by omega, ← ev22]) (ev23.trans (sw_23 (y17).toNat (by omega)).1) (by have g9 := (sw_23 (y17).toNat (by omega)).2; omega)) (by omega)
            · refine z_iconst F dX6_isWord_62 ?_
              exact hret _ _ 63 _ ⟨by omega, by omega⟩ ⟨hI, hW⟩ ⟨⟨by omega, by omega⟩, rfl, (by omega), (iwC_e (iwC_s (z' := 0) (c1 := v22 % 256) i35_0 rfl (by omega) (by rw [wl_oddb]; omega) (by rw [wl_oddb]; omega) (show v22 % 256 = bC M ((M 18 6).toNat + (y17).toNat) from by show _ = M 1 _ % 256; rw [show (M 18 6).toNat + (y17).toNat = ((u5 + y17)).toNat from by omega, ← ev22]) (ev23.trans (sw_23 (y17).toNat (by omega)).1) (by have g9 := (sw_23 (y17).toNat (by omega)).2; omega)) (fun q => by exfalso; omega) (by omega) (by omega))⟩ dX6_isWord_63
      · refine z_iconst F dX6_isWord_31 ?_
        exact hret _ _ 32 _ ⟨by omega, by omega⟩ ⟨hI, hW⟩ ⟨⟨by omega, by omega⟩, rfl, (by omega), (iwC_e (k := 0) (iwC_n (by rw [wl_oddb, tkC_lt (c := 1) (by decide) (by decide)]; omega)) (fun q => by exfalso; omega) (by omega) (by omega))⟩ dX6_isWord_32
set_option maxHeartbeats 4000000 in
set_option maxRecDepth 4000 in
theorem kp_X6_isWord_18_1024 (l : Launch) (M : Mem) (hJ : Iw M) (hp0 : M 18 6 ≤ M 18 5 ∧ M 18 5 ≤ M 18 4 ∧ M 18 7 ≤ 4 * (M 18 5 - M 18 6)) : CI l yX6_isWord cX6_isWord 3 (some .boolean) 5 (fun ad => [.ref (ad 18), .ref (ad 1024)]) M (fun z M' => (0 ≤ z ∧ z ≤ 1) ∧ M = M' ∧ (M 18 6 + z ≤ M 18 5 ∧ (z = 1 → M 18 1 = 0)) ∧ (WZ z (isW w_evena (absC M)))) := by
  obtain ⟨hI, hW⟩ := hJ
  refine en_z (by decide +kernel) (fun ad => by exact Nat.le_of_ble_eq_true rfl) (fun D cy ad A p e s m args below meth c Q F hret => ?_)
  refine z_eq (ls' := [(0, .ref (ad 18)), (1, .ref (ad 1024))]) rfl rfl rfl ?_
  obtain ⟨u1, eu1⟩ : ∃ v : Int, v = M 18 1 := ⟨_, rfl⟩
  have ku1 : (-2147483648) ≤ u1 ∧ u1 ≤ 2147483647 := by have := hI.at (show Bd 18 1 = (-2147483648, 2147483647) from rfl); omega
  obtain ⟨u2, eu2⟩ : ∃ v : Int, v = M 18 2 := ⟨_, rfl⟩
  have ku2 : (-2147483648) ≤ u2 ∧ u2 ≤ 2147483647 := by have := hI.at (show Bd 18 2 = (-2147483648, 2147483647) from rfl); omega
  obtain ⟨u3, eu3⟩ : ∃ v : Int, v = M 18 4 := ⟨_, rfl⟩
  have ku3 : 0 ≤ u3 ∧ u3 ≤ 900 := by have := hI.at (show Bd 18 4 = (0, 900) from rfl); omega
  obtain ⟨u4, eu4⟩ : ∃ v : Int, v = M 18 5 := ⟨_, rfl⟩
  have ku4 : 0 ≤ u4 ∧ u4 ≤ 900 := by have := hI.at (show Bd 18 5 = (0, 900) from rfl); omega
  obtain ⟨u5, eu5⟩ : ∃ v : Int, v = M 18 6 := ⟨_, rfl⟩
  have ku5 : 0 ≤ u5 ∧ u5 ≤ 900 := by have := hI.at (show Bd 18 6 = (0, 900) from rfl); omega
  obtain ⟨u6, eu6⟩ : ∃ v : Int, v = M 18 7 := ⟨_, rfl⟩
  have ku6 : 0 ≤ u6 ∧ u6 ≤ 4 := by have := hI.at (show Bd 18 7 = (0, 4) from rfl); omega
  obtain ⟨u7, eu7⟩ : ∃ v : Int, v = M 18 8 := ⟨_, rfl⟩
  have ku7 : (-2147483648) ≤ u7 ∧ u7 ≤ 2147483647 := by have := hI.at (show Bd 18 8 = (-2147483648, 2147483647) from rfl); omega
  refine z_aload_n F dX6_isWord_0 rfl (q := 0) rfl ?_
  refine gf_X6_36 F hI gs_18 rfl bd_18_1 dX6_isWord_1 (fun v8 ev8 av8 bv8 => ?_)
  have zv8 : u1 = v8 := eu1.trans ev8.symm
  subst zv8
  refine z_if_ne (tgt := 31) F dX6_isWord_4 (by decide +kernel) (by omega) (fun c9 => ?_) (fun c9 => ?_)
  · refine z_iconst F dX6_isWord_31 ?_
    exact hret _ _ 32 _ ⟨by omega, by omega⟩ ⟨hI, hW⟩ ⟨⟨by omega, by omega⟩, rfl, (by omega), (iwC_e (k := 0) (iwC_n (by rw [wl_evena, tkC_lt (c := 1) (by decide) (by decide)]; omega)) (fun q => by exfalso; omega) (by omega) (by omega))⟩ dX6_isWord_32
  · refine z_aload_n F dX6_isWord_7 rfl (q := 0) rfl ?_
    refine gf_X6_48 F hI gs_18 rfl bd_18_7 dX6_isWord_8 (fun v10 ev10 av10 bv10 => ?_)
    have zv10 : u6 = v10 := eu6.trans ev10.symm
    subst zv10
    refine z_iconst F dX6_isWord_11 ?_
    refine z_icmp_ne (tgt := 31) F dX6_isWord_12 (by decide +kernel) (by omega) (by omega) (fun c11 => ?_) (fun c11 => ?_)
    · refine z_iconst F dX6_isWord_31 ?_
      exact hret _ _ 32 _ ⟨by omega, by omega⟩ ⟨hI, hW⟩ ⟨⟨by omega, by omega⟩, rfl, (by omega), (iwC_e (k := 0) (iwC_n (by rw [wl_evena, tkC_lt (c := 1) (by decide) (by decide)]; omega)) (fun q => by exfalso; omega) (by omega) (by omega))⟩ dX6_isWord_32
    · refine z_aload_n F dX6_isWord_15 rfl (q := 0) rfl ?_
      refine gf_X6_33 F hI gs_18 rfl bd_18_5 dX6_isWord_16 (fun v12 ev12 av12 bv12 => ?_)
      have zv12 : u4 = v12 := eu4.trans ev12.symm
      subst zv12
      refine z_aload_n F dX6_isWord_19 rfl (q := 0) rfl ?_
      refine gf_X6_57 F hI gs_18 rfl bd_18_6 dX6_isWord_20 (fun v13 ev13 av13 bv13 => ?_)
      have zv13 : u5 = v13 := eu5.trans ev13.symm
      subst zv13
      refine z_isub F dX6_isWord_23 ?_
      refine z_aload_n F dX6_isWord_24 rfl (q := 1) rfl ?_
      refine zvs_i (i := 24) (rest := [ii (u4 - u5)]) F (kS_len l M ⟨hI, hW⟩ 24 (by decide)) cs_X6_75 (by decide) (by decide) (by decide) rfl rfl rfl (Nat.le_of_ble_eq_true rfl) dX6_isWord_25 (fun v14 M9 rv14 hI9 pv14 => ?_)
      obtain ⟨ev14, rfl⟩ := pv14
      obtain rfl : v14 = 5 := ev14.trans (show ((sbyt.getD 24 []).length : Int) = 5 from by decide)
      clear hI9
      refine z_icmp_eq (tgt := 33) F dX6_isWord_28 (by decide +kernel) (by omega) (by omega) (fun c15 => ?_) (fun c15 => ?_)
      · refine z_iconst F dX6_isWord_33 ?_
        refine z_istore_n F dX6_isWord_34 rfl (by decide) (ls' := [(2, ii 0), (0, .ref (ad 18)), (1, .ref (ad 1024))]) rfl ?_
        refine z_loc [1, 2, 0] (ls' := [(0, .ref (ad 18)), (1, .ref (ad 1024)), (2, ii 0)]) rfl ?_
        suffices key35 : ∀ (n : Nat) (y17 : Int), 0 ≤ y17 → y17 ≤ 5 → (Iw_C M w_evena 1 y17) → 5 - y17 < (n : Int) → Z D cy ad p l e (RMh 5) s m args below meth c A 3 0 0 Q 35 [(0, .ref (ad 18)), (1, .ref (ad 1024)), (2, ii y17)] [] M from key35 6 0 (by omega) (by omega) iwC_0 (by omega)
        intro n35
        induction n35 with
        | zero => intro y17 ay17 by17 i35_0 hn35; exfalso; omega
        | succ n35 ih35 =>
          intro y17 ay17 by17 i35_0 hn35
          refine z_iload_n F dX6_isWord_35 rfl (q := 2) rfl ?_
          refine z_aload_n F dX6_isWord_36 rfl (q := 1) rfl ?_
          refine zvs_i (i := 24) (rest := [ii y17]) F (kS_len l M ⟨hI, hW⟩ 24 (by decide)) cs_X6_75 (by decide) (by decide) (by decide) rfl rfl rfl (Nat.le_of_ble_eq_true rfl) dX6_isWord_37 (fun v18 M9 rv18 hI9 pv18 => ?_)
          obtain ⟨ev18, rfl⟩ := pv18
          obtain rfl : v18 = 5 := ev18.trans (show ((sbyt.getD 24 []).length : Int) = 5 from by decide)
          clear hI9
          refine z_icmp_ge (tgt := 70) F dX6_isWord_40 (by decide +kernel) (by omega) (by omega) (fun c19 => ?_) (fun c19 => ?_)
          · refine z_iconst F dX6_isWord_70 ?_
            exact hret _ _ 71 _ ⟨by omega, by omega⟩ ⟨hI, hW⟩ ⟨⟨by omega, by omega⟩, rfl, (by omega), (iwC_e i35_0 (fun q => by rw [wl_evena, tkC_lt (c := 1) (by decide) (by decide)]; omega) (by omega) (by omega))⟩ dX6_isWord_71
          · refine z_aload_n F dX6_isWord_43 rfl (q := 0) rfl ?_
            refine rf_X6_22 F gs_18 rfl dX6_isWord_44 ?_
            refine z_aload_n F dX6_isWord_47 rfl (q := 0) rfl ?_
            refine gf_X6_57 F hI gs_18 rfl bd_18_6 dX6_isWord_48 (fun v20 ev20 av20 bv20 => ?_)
            have zv20 : u5 = v20 := eu5.trans ev20.symm
            subst zv20
            refine z_iload_n F dX6_isWord_51 rfl (q := 2) rfl ?_
            refine z_iadd F dX6_isWord_52 ?_
            have k21 : 0 ≤ (u5 + y17) ∧ (u5 + y17) ≤ 899 := by omega
            refine z_bald F hI gs_1 (by omega) (by omega) (by decide) bd_1 dX6_isWord_53 (fun v22 (ev22 : v22 = M 1 _) av22 bv22 => ?_)
            refine z_aload_n F dX6_isWord_54 rfl (q := 1) rfl ?_
            refine z_iload_n F dX6_isWord_55 rfl (q := 2) rfl ?_
            refine zvs_i (i := 24) (rest := [ii v22]) F (kS_chr l M ⟨hI, hW⟩ 24 (by decide) y17 (by omega) (show y17 < ((sbyt.getD 24 []).length : Int) from by rw [show ((sbyt.getD 24 []).length : Int) = 5 from by decide]; omega)) cs_X6_78 (by decide) (by decide) (by decide) rfl rfl rfl (Nat.le_of_ble_eq_true rfl) dX6_isWord_56 (fun v23 M9 rv23 hI9 pv23 => ?_)
            obtain ⟨⟨av23, bv23, ev23⟩, rfl⟩ := pv23
            clear hI9
            refine z_icmp_eq (tgt := 64) F dX6_isWord_59 (by decide +kernel) (by omega) (by omega) (fun c24 => ?_) (fun c24 => ?_)
            · refine z_iincN F dX6_isWord_64 (q := 2) rfl (by decide) (fun v25 ev25 => ?_)
              refine z_eq (ls' := [(2, ii v25), (0, .ref (ad 18)), (1, .ref (ad 1024))]) rfl rfl rfl ?_
              refine z_goto (tgt := 35) F dX6_isWord_67 (by decide +kernel) ?_
              refine z_loc [1, 2, 0] (ls' := [(0, .ref (ad 18)), (1, .ref (ad 1024)), (2, ii v25)]) rfl ?_
              exact ih35 v25 (by omega) (by omega) (by rw [show v25 = y17 + 1 from by omega]; exact iwC_s (z' := 1) (c1 := v22 % 256) i35_0 rfl (by omega) (by rw [wl_evena]; omega) (by rw [wl_evena]; omega) (show v22 % 256 = bC M ((M 18 6).toNat + (y17).toNat) from by show _ = M 1 _ % 256; rw [show (M 18 6).toNat + (y17).toNat = ((u5 + y17)).toNat from by omega, ← ev22]) (ev23.trans (sw_24 (y17).toNat (by omega)).1) (by have g9 := (sw_24 (y17).toNat (by omega)).2; omega)) (by omega)
            · refine z_iconst F dX6_isWord_62 ?_
              exact hret _ _ 63 _ ⟨by omega, by omega⟩ ⟨hI, hW⟩ ⟨⟨by omega, by omega⟩, rfl, (by omega), (iwC_e (iwC_s (z' := 0) (c1 := v22 % 256) i35_0 rfl (by omega) (by rw [wl_evena]; omega) (by rw [wl_evena]; omega) (show v22 % 256 = bC M ((M 18 6).toNat + (y17).toNat) from by show _ = M 1 _ % 256; rw [show (M 18 6).toNat + (y17).toNat = ((u5 + y17)).toNat from by omega, ← ev22]) (ev23.trans (sw_24 (y17).toNat (by omega)).1) (by have g9 := (sw_24 (y17).toNat (by omega)).2; omega)) (fun q => by exfalso; omega) (by omega) (by omega))⟩ dX6_isWord_63
      · refine z_iconst F dX6_isWord_31 ?_
        exact hret _ _ 32 _ ⟨by omega, by omega⟩ ⟨hI, hW⟩ ⟨⟨by omega, by omega⟩, rfl, (by omega), (iwC_e (k := 0) (iwC_n (by rw [wl_evena, tkC_lt (c := 1) (by decide) (by decide)]; omega)) (fun q => by exfalso; omega) (by omega) (by omega))⟩ dX6_isWord_32
