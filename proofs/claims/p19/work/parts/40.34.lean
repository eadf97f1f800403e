theorem dX6_readPlaces_0 : decode cX6_readPlaces 0 = .ok (.aload_n 0, 1) := by decide +kernel
theorem dX6_readPlaces_1 : decode cX6_readPlaces 1 = .ok (.ldc 104, 2) := by decide +kernel
theorem dX6_readPlaces_10 : decode cX6_readPlaces 10 = .ok (.invokevirtual 110, 3) := by decide +kernel
theorem dX6_readPlaces_13 : decode cX6_readPlaces 13 = .ok (.istore_n 1, 1) := by decide +kernel
theorem dX6_readPlaces_14 : decode cX6_readPlaces 14 = .ok (.aload_n 0, 1) := by decide +kernel
theorem dX6_readPlaces_15 : decode cX6_readPlaces 15 = .ok (.getfield 12, 3) := by decide +kernel
theorem dX6_readPlaces_18 : decode cX6_readPlaces 18 = .ok (.iload_n 1, 1) := by decide +kernel
theorem dX6_readPlaces_19 : decode cX6_readPlaces 19 = .ok (.invokevirtual 114, 3) := by decide +kernel
theorem dX6_readPlaces_22 : decode cX6_readPlaces 22 = .ok (.aload_n 0, 1) := by decide +kernel
theorem dX6_readPlaces_23 : decode cX6_readPlaces 23 = .ok (.invokevirtual 117, 3) := by decide +kernel
theorem dX6_readPlaces_26 : decode cX6_readPlaces 26 = .ok (.return_, 1) := by decide +kernel
theorem dX6_readPlaces_3 : decode cX6_readPlaces 3 = .ok (.invokevirtual 106, 3) := by decide +kernel
theorem dX6_readPlaces_6 : decode cX6_readPlaces 6 = .ok (.aload_n 0, 1) := by decide +kernel
theorem dX6_readPlaces_7 : decode cX6_readPlaces 7 = .ok (.iconst 1, 1) := by decide +kernel
theorem dX6_readPlaces_8 : decode cX6_readPlaces 8 = .ok (.bipush 10, 2) := by decide +kernel
theorem dX6_read_0 : decode cX6_read 0 = .ok (.aload_n 0, 1) := by decide +kernel
theorem dX6_read_1 : decode cX6_read 1 = .ok (.iload_n 1, 1) := by decide +kernel
theorem dX6_read_11 : decode cX6_read 11 = .ok (.putfield 30, 3) := by decide +kernel
theorem dX6_read_14 : decode cX6_read 14 = .ok (.aload_n 0, 1) := by decide +kernel
theorem dX6_read_15 : decode cX6_read 15 = .ok (.iconst 0, 1) := by decide +kernel
theorem dX6_read_16 : decode cX6_read 16 = .ok (.putfield 33, 3) := by decide +kernel
theorem dX6_read_19 : decode cX6_read 19 = .ok (.aload_n 0, 1) := by decide +kernel
theorem dX6_read_2 : decode cX6_read 2 = .ok (.iconst 0, 1) := by decide +kernel
theorem dX6_read_20 : decode cX6_read 20 = .ok (.iconst 0, 1) := by decide +kernel
theorem dX6_read_21 : decode cX6_read 21 = .ok (.putfield 36, 3) := by decide +kernel
theorem dX6_read_24 : decode cX6_read 24 = .ok (.aload_n 0, 1) := by decide +kernel
theorem dX6_read_25 : decode cX6_read 25 = .ok (.iconst (-1), 1) := by decide +kernel
theorem dX6_read_26 : decode cX6_read 26 = .ok (.putfield 18, 3) := by decide +kernel
theorem dX6_read_29 : decode cX6_read 29 = .ok (.aload_n 0, 1) := by decide +kernel
theorem dX6_read_3 : decode cX6_read 3 = .ok (.aload_n 0, 1) := by decide +kernel
theorem dX6_read_30 : decode cX6_read 30 = .ok (.getfield 12, 3) := by decide +kernel
theorem dX6_read_33 : decode cX6_read 33 = .ok (.invokevirtual 39, 3) := by decide +kernel
theorem dX6_read_36 : decode cX6_read 36 = .ok (.aload_n 0, 1) := by decide +kernel
theorem dX6_read_37 : decode cX6_read 37 = .ok (.invokevirtual 42, 3) := by decide +kernel
theorem dX6_read_4 : decode cX6_read 4 = .ok (.getfield 22, 3) := by decide +kernel
theorem dX6_read_40 : decode cX6_read 40 = .ok (.aload_n 0, 1) := by decide +kernel
theorem dX6_read_41 : decode cX6_read 41 = .ok (.invokevirtual 45, 3) := by decide +kernel
theorem dX6_read_44 : decode cX6_read 44 = .ok (.iconst 0, 1) := by decide +kernel
theorem dX6_read_45 : decode cX6_read 45 = .ok (.istore_n 2, 1) := by decide +kernel
theorem dX6_read_46 : decode cX6_read 46 = .ok (.iload_n 2, 1) := by decide +kernel
theorem dX6_read_47 : decode cX6_read 47 = .ok (.sipush 900, 3) := by decide +kernel
theorem dX6_read_50 : decode cX6_read 50 = .ok (.if_icmp .ge 27, 3) := by decide +kernel
theorem dX6_read_53 : decode cX6_read 53 = .ok (.aload_n 0, 1) := by decide +kernel
theorem dX6_read_54 : decode cX6_read 54 = .ok (.getfield 36, 3) := by decide +kernel
theorem dX6_read_57 : decode cX6_read 57 = .ok (.ifCond .ne 20, 3) := by decide +kernel
theorem dX6_read_60 : decode cX6_read 60 = .ok (.aload_n 0, 1) := by decide +kernel
theorem dX6_read_61 : decode cX6_read 61 = .ok (.getfield 48, 3) := by decide +kernel
theorem dX6_read_64 : decode cX6_read 64 = .ok (.ifCond .eq 13, 3) := by decide +kernel
theorem dX6_read_67 : decode cX6_read 67 = .ok (.aload_n 0, 1) := by decide +kernel
theorem dX6_read_68 : decode cX6_read 68 = .ok (.invokevirtual 51, 3) := by decide +kernel
theorem dX6_read_7 : decode cX6_read 7 = .ok (.arraylength, 1) := by decide +kernel
theorem dX6_read_71 : decode cX6_read 71 = .ok (.iinc 2 1, 3) := by decide +kernel
theorem dX6_read_74 : decode cX6_read 74 = .ok (.goto (-28), 3) := by decide +kernel
theorem dX6_read_77 : decode cX6_read 77 = .ok (.aload_n 0, 1) := by decide +kernel
theorem dX6_read_78 : decode cX6_read 78 = .ok (.getfield 36, 3) := by decide +kernel
theorem dX6_read_8 : decode cX6_read 8 = .ok (.invokestatic 26, 3) := by decide +kernel
theorem dX6_read_81 : decode cX6_read 81 = .ok (.ifCond .ne 10, 3) := by decide +kernel
theorem dX6_read_84 : decode cX6_read 84 = .ok (.aload_n 0, 1) := by decide +kernel
theorem dX6_read_85 : decode cX6_read 85 = .ok (.getfield 12, 3) := by decide +kernel
theorem dX6_read_88 : decode cX6_read 88 = .ok (.invokevirtual 54, 3) := by decide +kernel
theorem dX6_read_91 : decode cX6_read 91 = .ok (.return_, 1) := by decide +kernel
theorem dX9_open_0 : decode cX9_open 0 = .ok (.aload_n 0, 1) := by decide +kernel
theorem dX9_open_1 : decode cX9_open 1 = .ok (.iload_n 1, 1) := by decide +kernel
theorem dX9_open_11 : decode cX9_open 11 = .ok (.iconst 0, 1) := by decide +kernel
theorem dX9_open_12 : decode cX9_open 12 = .ok (.istore_n 2, 1) := by decide +kernel
theorem dX9_open_13 : decode cX9_open 13 = .ok (.iload_n 2, 1) := by decide +kernel
theorem dX9_open_14 : decode cX9_open 14 = .ok (.aload_n 0, 1) := by decide +kernel
theorem dX9_open_15 : decode cX9_open 15 = .ok (.getfield 56, 3) := by decide +kernel
theorem dX9_open_18 : decode cX9_open 18 = .ok (.if_icmp .ge 23, 3) := by decide +kernel
theorem dX9_open_2 : decode cX9_open 2 = .ok (.iconst 0, 1) := by decide +kernel
theorem dX9_open_21 : decode cX9_open 21 = .ok (.aload_n 0, 1) := by decide +kernel
theorem dX9_open_22 : decode cX9_open 22 = .ok (.getfield 9, 3) := by decide +kernel
theorem dX9_open_25 : decode cX9_open 25 = .ok (.iload_n 2, 1) := by decide +kernel
theorem dX9_open_26 : decode cX9_open 26 = .ok (.iconst 0, 1) := by decide +kernel
theorem dX9_open_27 : decode cX9_open 27 = .ok (.iastore, 1) := by decide +kernel
theorem dX9_open_28 : decode cX9_open 28 = .ok (.aload_n 0, 1) := by decide +kernel
theorem dX9_open_29 : decode cX9_open 29 = .ok (.getfield 15, 3) := by decide +kernel
theorem dX9_open_3 : decode cX9_open 3 = .ok (.bipush 10, 2) := by decide +kernel
theorem dX9_open_32 : decode cX9_open 32 = .ok (.iload_n 2, 1) := by decide +kernel
theorem dX9_open_33 : decode cX9_open 33 = .ok (.iconst 0, 1) := by decide +kernel
theorem dX9_open_34 : decode cX9_open 34 = .ok (.iastore, 1) := by decide +kernel
theorem dX9_open_35 : decode cX9_open 35 = .ok (.iinc 2 1, 3) := by decide +kernel
theorem dX9_open_38 : decode cX9_open 38 = .ok (.goto (-25), 3) := by decide +kernel
theorem dX9_open_41 : decode cX9_open 41 = .ok (.return_, 1) := by decide +kernel
theorem dX9_open_5 : decode cX9_open 5 = .ok (.invokestatic 101, 3) := by decide +kernel
theorem dX9_open_8 : decode cX9_open 8 = .ok (.putfield 56, 3) := by decide +kernel
set_option maxHeartbeats 4000000 in
set_option maxRecDepth 4000 in
theorem kp_X6_isWord_18_1002 (l : Launch) (M : Mem) (hJ : Iw M) (hp0 : M 18 6 ≤ M 18 5 ∧ M 18 5 ≤ M 18 4 ∧ M 18 7 ≤ 4 * (M 18 5 - M 18 6)) : CI l yX6_isWord cX6_isWord 3 (some .boolean) 5 (fun ad => [.ref (ad 18), .ref (ad 1002)]) M (fun z M' => (0 ≤ z ∧ z ≤ 1) ∧ M = M' ∧ (M 18 6 + z ≤ M 18 5 ∧ (z = 1 → M 18 1 = 0)) ∧ (WZ z (isW w_places (absC M)))) := by
  obtain ⟨hI, hW⟩ := hJ
  refine en_z (by decide +kernel) (fun ad => by exact Nat.le_of_ble_eq_true rfl) (fun D cy ad A p e s m args below meth c Q F hret => ?_)
  refine z_eq (ls' := [(0, .ref (ad 18)), (1, .ref (ad 1002))]) rfl rfl rfl ?_
  obtain ⟨u1, eu1⟩ : ∃ v : Int, v = M 18 1 := ⟨_, rfl⟩
  have ku1 : (-2147483648) ≤ u1 ∧ u1 ≤ 2147483647 := by have := hI.at (show Bd 18 1 = (-2147483648, 2147483647) from rfl); omega
  obtain ⟨u2, eu2⟩ : ∃ v : Int, v = M 18 2 := ⟨_, rfl⟩
  have ku2 : (-2147483648) ≤ u2 ∧ u2 ≤ 2147483647 := by have := hI.at (show Bd 18 2 = (-2147483648, 2147483647) from rfl); omega
  obtain ⟨u3, eu3⟩ : ∃ v : Int, v = M 18 4 := ⟨_, rfl⟩
  have ku3 : 0 ≤ u3 ∧ u3 ≤ 900 := by have := hI.at (show Bd 18 4 = (0, 900) from rfl); omega
  obtain ⟨u4, eu4⟩ : ∃ v : Int, v = M 18 5 := ⟨_, rfl⟩
  have ku4 : 0 ≤ u4 ∧ u4 ≤ 900 := by have := hI.at (show Bd 18 5 = (0, 900) from rfl); omega
  obtain ⟨u5, eu5⟩ : ∃ v : Int, v = M 18 6 := ⟨_, rfl⟩
  have ku5 : 0 ≤ u5 ∧ u5 ≤ 900 := by have := hI.at (show Bd 18 6 = (0, 900) from rfl); omega
  obtain ⟨u6, eu6⟩ : ∃ v : Int, v = M 18 7 := ⟨_, rfl⟩
  have ku6 : 0 ≤ u6 ∧ u6 ≤ 4 := by have := hI.at (show Bd 18 7 = (0, 4) from rfl); omega
  obtain ⟨u7, eu7⟩ : ∃ v : Int, v = M 18 8 := ⟨_, rfl⟩
  have ku7 : (-2147483648) ≤ u7 ∧ u7 ≤ 2147483647 := by have := hI.at (show Bd 18 8 = (-2147483648, 2147483647) from rfl); omega
  refine z_aload_n F dX6_isWord_0 rfl (q := 0) rfl ?_
  refine gf_X6_36 F hI gs_18 rfl bd_18_1 dX6_isWord_1 (fun v8 ev8 av8 bv8 => ?_)
  have zv8 : u1 = v8 := eu1.trans ev8.symm
  subst zv8
  refine z_if_ne (tgt := 31) F dX6_isWord_4 (by decide +kernel) (by omega) (fun c9 => ?_) (fun c9 => ?_)
  · refine z_iconst F dX6_isWord_31 ?_
    exact hret _ _ 32 _ ⟨by omega, by omega⟩ ⟨hI, hW⟩ ⟨⟨by omega, by omega⟩, rfl, (by omega), (iwC_e (k := 0) (iwC_n (by rw [wl_places, tkC_lt (c := 1) (by decide) (by decide)]; omega)) (fun q => by exfalso; omega) (by omega) (by omega))⟩ dX6_isWord_32
  · refine z_aload_n F dX6_isWord_7 rfl (q := 0) rfl ?_
    refine gf_X6_48 F hI gs_18 rfl bd_18_7 dX6_isWord_8 (fun v10 ev10 av10 bv10 => ?_)
    have zv10 : u6 = v10 := eu6.trans ev10.symm
    subst zv10
    refine z_iconst F dX6_isWord_11 ?_
    refine z_icmp_ne (tgt := 31) F dX6_isWord_12 (by decide +kernel) (by omega) (by omega) (fun c11 => ?_) (fun c11 => ?_)
    · refine z_iconst F dX6_isWord_31 ?_
      exact hret _ _ 32 _ ⟨by omega, by omega⟩ ⟨hI, hW⟩ ⟨⟨by omega, by omega⟩, rfl, (by omega), (iwC_e (k := 0) (iwC_n (by rw [wl_places, tkC_lt (c := 1) (by decide) (by decide)]; omega)) (fun q => by exfalso; omega) (by omega) (by omega))⟩ dX6_isWord_32
    · refine z_aload_n F dX6_isWord_15 rfl (q := 0) rfl ?_
      refine gf_X6_33 F hI gs_18 rfl bd_18_5 dX6_isWord_16 (fun v12 ev12 av12 bv12 => ?_)
      have zv12 : u4 = v12 := eu4.trans ev12.symm
      subst zv12
      refine z_aload_n F dX6_isWord_19 rfl (q := 0) rfl ?_
      refine gf_X6_57 F hI gs_18 rfl bd_18_6 dX6_isWord_20 (fun v13 ev13 av13 bv13 => ?_)
      have zv13 : u5 = v13 := eu5.trans ev13.symm
      subst zv13
      refine z_isub F dX6_isWord_23 ?_
      refine z_aload_n F dX6_isWord_24 rfl (q := 1) rfl ?_
      refine zvs_i (i := 2) (rest := [ii (u4 - u5)]) F (kS_len l M ⟨hI, hW⟩ 2 (by decide)) cs_X6_75 (by decide) (by decide) (by decide) rfl rfl rfl (Nat.le_of_ble_eq_true rfl) dX6_isWord_25 (fun v14 M9 rv14 hI9 pv14 => ?_)
      obtain ⟨ev14, rfl⟩ := pv14
      obtain rfl : v14 = 6 := ev14.trans (show ((sbyt.getD 2 []).length : Int) = 6 from by decide)
      clear hI9
      refine z_icmp_eq (tgt := 33) F dX6_isWord_28 (by decide +kernel) (by omega) (by omega) (fun c15 => ?_) (fun c15 => ?_)
      · refine z_iconst F dX6_isWord_33 ?_
        refine z_istore_n F dX6_isWord_34 rfl (by decide) (ls' := [(2, ii 0), (0, .ref (ad 18)), (1, .ref (ad 1002))]) rfl ?_
        refine z_loc [1, 2, 0] (ls' := [(0, .ref (ad 18)), (1, .ref (ad 1002)), (2, ii 0)]) rfl ?_
        suffices key35 : ∀ (n : Nat) (y17 : Int), 0 ≤ y17 → y17 ≤ 6 → (Iw_C M w_places 1 y17) → 6 - y17 < (n : Int) → Z D cy ad p l e (RMh 5) s m args below meth c A 3 0 0 Q 35 [(0, .ref (ad 18)), (1, .ref (ad 1002)), (2, ii y17)] [] M from key35 7 0 (by omega) (by omega) iwC_0 (by omega)
        intro n35
        induction n35 with
        | zero => intro y17 ay17 by17 i35_0 hn35; exfalso; omega
        | succ n35 ih35 =>
          intro y17 ay17 by17 i35_0 hn35
          refine z_iload_n F dX6_isWord_35 rfl (q := 2) rfl ?_
          refine z_aload_n F dX6_isWord_36 rfl (q := 1) rfl ?_
          refine zvs_i (i := 2) (rest := [ii y17]) F (kS_len l M ⟨hI, hW⟩ 2 (by decide)) cs_X6_75 (by decide) (by decide) (by decide) rfl rfl rfl (Nat.le_of_ble_eq_true rfl) dX6_isWord_37 (fun v18 M9 rv18 hI9 pv18 => ?_)
          obtain ⟨ev18, rfl⟩ := pv18
          obtain rfl : v18 = 6 := ev18.trans (show ((sbyt.getD 2 []).length : Int) = 6 from by decide)
          clear hI9
          refine z_icmp_ge (tgt := 70) F dX6_isWord_40 (by decide +kernel) (by omega) (by omega) (fun c19 => ?_) (fun c19 => ?_)
          · refine z_iconst F dX6_isWord_70 ?_
            exact hret _ _ 71 _ ⟨by omega, by omega⟩ ⟨hI, hW⟩ ⟨⟨by omega, by omega⟩, rfl, (by omega), (iwC_e i35_0 (fun q => by rw [wl_places, tkC_lt (c := 1) (by decide) (by decide)]; omega) (by omega) (by omega))⟩ dX6_isWord_71
          · refine z_aload_n F dX6_isWord_43 rfl (q := 0) rfl ?_
            refine rf_X6_22 F gs_18 rfl dX6_isWord_44 ?_
            refine z_aload_n F dX6_isWord_47 rfl (q := 0) rfl ?_
            refine gf_X6_57 F hI gs_18 rfl bd_18_6 dX6_isWord_48 (fun v20 ev20 av20 bv20 => ?_)
            have zv20 : u5 = v20 := eu5.trans ev20.symm
            subst zv20
            refine z_iload_n F dX6_isWord_51 rfl (q := 2) rfl ?_
            refine z_iadd F dX6_isWord_52 ?_
            have k21 : 0 ≤ (u5 + y17) ∧ (u5 + y17) ≤ 899 := by omega
            refine z_bald F hI gs_1 (by omega) (by omega) (by decide) bd_1 dX6_isWord_53 (fun v22 (ev22 : v22 = M 1 _) av22 bv22 => ?_)
            refine z_aload_n F dX6_isWord_54 rfl (q := 1) rfl ?_
            refine z_iload_n F dX6_isWord_55 rfl (q := 2) rfl ?_
            refine zvs_i (i := 2) (rest := [ii v22]) F (kS_chr l M ⟨hI, hW⟩ 2 (by decide) y17 (by omega) (show y17 < ((sbyt.getD 2 []).length : Int) from by rw [show ((sbyt.getD 2 []).length : Int) = 6 from by decide]; omega)) cs_X6_78 (by decide) (by decide) (by decide) rfl rfl rfl (Nat.le_of_ble_eq_true rfl) dX6_isWord_56 (fun v23 M9 rv23 hI9 pv23 => ?_)
            obtain ⟨⟨av23, bv23, ev23⟩, rfl⟩ := pv23
            clear hI9
            refine z_icmp_eq (tgt := 64) F dX6_isWord_59 (by decide +kernel) (by omega) (by omega) (fun c24 => ?_) (fun c24 => ?_)
            · refine z_iincN F dX6_isWord_64 (q := 2) rfl (by decide) (fun v25 ev25 => ?_)
              refine z_eq (ls' := [(2, ii v25), (0, .ref (ad 18)), (1, .ref (ad 1002))]) rfl rfl rfl ?_
              refine z_goto (tgt := 35) F dX6_isWord_67 (by decide +kernel) ?_
              refine z_loc [1, 2, 0] (ls' := [(0, .ref (ad 18)), (1, .ref (ad 1002)), (2, ii v25)]) rfl ?_
              exact ih35 v25 (by omega) (by omega) (by rw [show v25 = y17 + 1 from by omega]; exact iwC_s (z' := 1) (c1 := v22 % 256) i35_0 rfl (by omega) (by rw [wl_places]; omega) (by rw [wl_places]; omega) (show v22 % 256 = bC M ((M 18 6).toNat + (y17).toNat) from by show _ = M 1 _ % 256; rw [show (M 18 6).toNat + (y17).toNat = ((u5 + y17)).toNat from by omega, ← ev22]) (ev23.trans (sw_2 (y17).toNat (by omega)).1) (by have g9 := (sw_2 (y17).toNat (by omega)).2; omega)) (by omega)
            · refine z_iconst F dX6_isWord_62 ?_
              exact hret _ _ 63 _ ⟨by omega, by omega⟩ ⟨hI, hW⟩ ⟨⟨by omega, by omega⟩, rfl, (by omega), (iwC_e (iwC_s (z' := 0) (c1 := v22 % 256) i35_0 rfl (by omega) (by rw [wl_places]; omega) (by rw [wl_places]; omega) (show v22 % 256 = bC M ((M 18 6).toNat + (y17).toNat) from by show _ = M 1 _ % 256; rw [show (M 18 6).toNat + (y17).toNat = ((u5 + y17)).toNat from by omega, ← ev22]) (ev23.trans (sw_2 (y17).toNat (by omega)).1) (by have g9 := (sw_2 (y17).toNat (by omega)).2; omega)) (fun q => by exfalso; omega) (by omega) (by omega))⟩ dX6_isWord_63
      · refine z_iconst F dX6_isWord_31 ?_
        exact hret _ _ 32 _ ⟨by omega, by omega⟩ ⟨hI, hW⟩ ⟨⟨by omega, by omega⟩, rfl, (by omega), (iwC_e (k := 0) (iwC_n (by rw [wl_places, tkC_lt (c := 1) (by decide) (by decide)]; omega)) (fun q => by exfalso; omega) (by omega) (by omega))⟩ dX6_isWord_32
set_option maxHeartbeats 4000000 in
set_option maxRecDepth 4000 in
theorem kp_X6_needWord_18_1002 (l : Launch) (M : Mem) (hJ : Iw M) (hp0 : M 18 6 ≤ M 18 5 ∧ M 18 5 ≤ M 18 4 ∧ M 18 7 ≤ 4 * (M 18 5 - M 18 6)) : CV l yX6_needWord cX6_needWord 2 none 7 (fun ad => [.ref (ad 18), .ref (ad 1002)]) M (fun M' => Fr [18] M M' ∧ (M' 18 4 = M 18 4 ∧ M' 18 6 ≤ M' 18 5 ∧ M' 18 5 ≤ M' 18 4 ∧ M' 18 7 ≤ 4 * (M' 18 5 - M' 18 6) ∧ M 18 6 ≤ M' 18 6 ∧ (M' 18 1 = 0 → M 18 1 = 0)) ∧ (mustW w_places (absC M) = absC M')) := by
  obtain ⟨hI, hW⟩ := hJ
  have hF : Fr [18] M M := Fr.rf
  refine en_v (by decide +kernel) (fun ad => by exact Nat.le_of_ble_eq_true rfl) (fun D cy ad A p e s m args below meth c Q F hret => ?_)
  refine z_eq (ls' := [(0, .ref (ad 18)), (1, .ref (ad 1002))]) rfl rfl rfl ?_
  refine z_aload_n F dX6_needWord_0 rfl (q := 0) rfl ?_
  refine z_aload_n F dX6_needWord_1 rfl (q := 1) rfl ?_
  refine zv_i (rest := []) F (kp_X6_isWord_18_1002 l M ⟨hI, hW⟩ (by omega)) cs_X6_86 (T := TX6) (N := 9) (ci := 6) rfl gs_18 (by decide) (by decide) rfl rfl rfl (Nat.le_of_ble_eq_true rfl) dX6_needWord_2 (fun v1 M2 rv1 hI p3 => ?_)
  obtain ⟨hI, hW⟩ := hI
  obtain ⟨⟨av1, bv1⟩, rfl, xp3, yp3⟩ := p3
  refine z_if_eq (tgt := 15) F dX6_needWord_5 (by decide +kernel) (by omega) (fun c4 => ?_) (fun c4 => ?_)
  · refine z_aload_n F dX6_needWord_15 rfl (q := 0) rfl ?_
    refine zv_v (rest := []) F (kp_X6_refuse_18 l M ⟨hI, hW⟩) cs_X6_90 (T := TX6) (N := 9) (ci := 6) rfl gs_18 (by decide) (by decide) rfl rfl rfl (Nat.le_of_ble_eq_true rfl) dX6_needWord_16 (fun M5 hI p6 => ?_)
    obtain ⟨hI, hW⟩ := hI
    obtain ⟨fp6, xp6, yp6⟩ := p6
    have hF := hF.call fp6 (by decide)
    exact hret _ 19 _ ⟨hI, hW⟩ ⟨hF, (by omega), (must_f (wz_f yp3 (by omega)) yp6)⟩ dX6_needWord_19
  · refine z_aload_n F dX6_needWord_8 rfl (q := 0) rfl ?_
    refine zv_v (rest := []) F (kp_X6_advance_18 l M ⟨hI, hW⟩ (by omega)) cs_X6_42 (T := TX6) (N := 9) (ci := 6) rfl gs_18 (by decide) (by decide) rfl rfl rfl (Nat.le_of_ble_eq_true rfl) dX6_needWord_9 (fun M7 hI p8 => ?_)
    obtain ⟨hI, hW⟩ := hI
    obtain ⟨fp8, xp8, yp8⟩ := p8
    have hF := hF.call fp8 (by decide)
    refine z_goto (tgt := 19) F dX6_needWord_12 (by decide +kernel) ?_
    exact hret _ 19 _ ⟨hI, hW⟩ ⟨hF, (by omega), (must_t (wz_t yp3 (by omega)) (yp8 (by omega)))⟩ dX6_needWord_19
set_option maxHeartbeats 4000000 in
set_option maxRecDepth 4000 in
theorem kp_X9_open_19 (l : Launch) (M : Mem) (hJ : Iw M) (x0 : Int) (hx0a : (-1) ≤ x0) (hx0b : x0 ≤ 10) : CV l yX9_open cX9_open 3 none 2 (fun ad => [.ref (ad 19), ii x0]) M (fun M' => Fr [19, 20, 21] M M' ∧ (M' 19 0 = M 19 0 ∧ M' 19 2 = M 19 2 ∧ M' 19 3 = M 19 3 ∧ M' 19 4 = M 19 4 ∧ (x0 < 0 ∨ M' 19 1 = x0)) ∧ (∀ p : Nat, (p : Int) < M' 19 1 → M' 20 p = 0)) := by
  obtain ⟨hI, hW⟩ := hJ
  have hF : Fr [19, 20, 21] M M := Fr.rf
  refine en_v (by decide +kernel) (fun ad => by exact Nat.le_of_ble_eq_true rfl) (fun D cy ad A p e s m args below meth c Q F hret => ?_)
  refine z_eq (ls' := [(0, .ref (ad 19)), (1, ii x0)]) rfl rfl rfl ?_
  refine z_aload_n F dX9_open_0 rfl (q := 0) rfl ?_
  refine z_iload_n F dX9_open_1 rfl (q := 1) rfl ?_
  refine z_iconst F dX9_open_2 ?_
  refine z_bipush F dX9_open_3 (by decide +kernel) ?_
  refine zn_i (rest := [.ref (ad 19)]) F (k_X11_keptWithin l M ⟨hI, hW⟩ x0 (by omega) (by omega) 0 (by omega) (by omega) 10 (by omega) (by omega)) cs_X9_101 (by decide) (by decide) rfl rfl rfl (Nat.le_of_ble_eq_true rfl) dX9_open_5 (fun v1 M2 rv1 hI p3 => ?_)
  obtain ⟨hI, hW⟩ := hI
  obtain ⟨⟨av1, bv1⟩, rfl, xp3⟩ := p3
  have hkv1 : 0 ≤ v1 ∧ v1 ≤ 10 := by omega
  refine pf_X9_56 F hI gs_19 rfl bd_19_1 rfl rfl dX9_open_8 (by omega) (by omega) (fun M5 hI sf4 f4 => ?_)
  have tM5_19_0 : M5 19 0 = M 19 0 := f4 19 0 (fun q => absurd q.2 (by decide))
  have tM5_19_2 : M5 19 2 = M 19 2 := f4 19 2 (fun q => absurd q.2 (by decide))
  have tM5_19_3 : M5 19 3 = M 19 3 := f4 19 3 (fun q => absurd q.2 (by decide))
  have tM5_19_4 : M5 19 4 = M 19 4 := f4 19 4 (fun q => absurd q.2 (by decide))
  have hF := hF.wr f4 (by decide) (by decide)
  have hW : WFk M5 := hW.site f4 (by decide)
  refine z_iconst F dX9_open_11 ?_
  refine z_istore_n F dX9_open_12 rfl (by decide) (ls' := [(2, ii 0), (0, .ref (ad 19)), (1, ii x0)]) rfl ?_
  refine z_loc [1, 0] (ls' := [(0, .ref (ad 19)), (2, ii 0)]) rfl ?_
  suffices key13 : ∀ (n : Nat) (y7 : Int) (M6 : Mem), Inv M6 → WFk M6 → Fr [19, 20, 21] M M6 → 0 ≤ y7 → y7 ≤ 10 → (M6 19 0 = M 19 0) → (M6 19 2 = M 19 2) → (M6 19 3 = M 19 3) → (M6 19 4 = M 19 4) → (x0 < 0 ∨ M6 19 1 = x0) → (∀ p : Nat, (p : Int) < y7 → M6 20 p = 0) → 10 - y7 < (n : Int) → Z D cy ad p l e (RMh 2) s m args below meth c A 3 0 0 Q 13 [(0, .ref (ad 19)), (2, ii y7)] [] M6 from key13 11 0 M5 hI hW hF (by omega) (by omega) (by omega) (by omega) (by omega) (by omega) (by omega) (fun p h => by exfalso; omega) (by omega)
  intro n13
  induction n13 with
  | zero => intro y7 M6 hI hW hF ay7 by7 i13_0 i13_1 i13_2 i13_3 i13_4 i13_5 hn13; exfalso; omega
  | succ n13 ih13 =>
    intro y7 M6 hI hW hF ay7 by7 i13_0 i13_1 i13_2 i13_3 i13_4 i13_5 hn13
    refine z_iload_n F dX9_open_13 rfl (q := 1) rfl ?_
    refine z_aload_n F dX9_open_14 rfl (q := 0) rfl ?_
    refine gf_X9_56 F hI gs_19 rfl bd_19_1 dX9_open_15 (fun v8 ev8 av8 bv8 => ?_)
    refine z_icmp_ge (tgt := 41) F dX9_open_18 (by decide +kernel) (by omega) (by omega) (fun c9 => ?_) (fun c9 => ?_)
    · exact hret _ 41 _ ⟨hI, hW⟩ ⟨hF, (by omega), (fun p h => i13_5 p (by omega))⟩ dX9_open_41
    · refine z_aload_n F dX9_open_21 rfl (q := 0) rfl ?_
      refine rf_X9_9 F gs_19 rfl dX9_open_22 ?_
      refine z_iload_n F dX9_open_25 rfl (q := 1) rfl ?_
      refine z_iconst F dX9_open_26 ?_
      refine z_iast F hI gs_20 (by omega) (by omega) (by decide) bd_20 dX9_open_27 (by omega) (by omega) (fun M11 hI sf10 f10 => ?_)
      have tM11_19_0 : M11 19 0 = M6 19 0 := f10 19 0 (fun q => absurd q.1 (by decide))
      have tM11_19_1 : M11 19 1 = M6 19 1 := f10 19 1 (fun q => absurd q.1 (by decide))
      have tM11_19_2 : M11 19 2 = M6 19 2 := f10 19 2 (fun q => absurd q.1 (by decide))
      have tM11_19_3 : M11 19 3 = M6 19 3 := f10 19 3 (fun q => absurd q.1 (by decide))
      have tM11_19_4 : M11 19 4 = M6 19 4 := f10 19 4 (fun q => absurd q.1 (by decide))
      have hF := hF.wr f10 (by decide) (by decide)
      have hW : WFk M11 := hW.site f10 (by decide)
      refine z_aload_n F dX9_open_28 rfl (q := 0) rfl ?_
      refine rf_X9_15 F gs_19 rfl dX9_open_29 ?_
      refine z_iload_n F dX9_open_32 rfl (q := 1) rfl ?_
      refine z_iconst F dX9_open_33 ?_
      refine z_iast F hI gs_21 (by omega) (by omega) (by decide) bd_21 dX9_open_34 (by omega) (by omega) (fun M13 hI sf12 f12 => ?_)
      have tM13_19_0 : M13 19 0 = M11 19 0 := f12 19 0 (fun q => absurd q.1 (by decide))
      have tM13_19_1 : M13 19 1 = M11 19 1 := f12 19 1 (fun q => absurd q.1 (by decide))
      have tM13_19_2 : M13 19 2 = M11 19 2 := f12 19 2 (fun q => absurd q.1 (by decide))
      have tM13_19_3 : M13 19 3 = M11 19 3 := f12 19 3 (fun q => absurd q.1 (by decide))
      have tM13_19_4 : M13 19 4 = M11 19 4 := f12 19 4 (fun q => absurd q.1 (by decide))
      have hF := hF.wr f12 (by decide) (by decide)
      have hW : WFk M13 := hW.site f12 (by decide)
      refine z_iincN F dX9_open_35 (q := 1) rfl (by decide) (fun v14 ev14 => ?_)
      refine z_eq (ls' := [(2, ii v14), (0, .ref (ad 19))]) rfl rfl rfl ?_
      refine z_goto (tgt := 13) F dX9_open_38 (by decide +kernel) ?_
      refine z_loc [1, 0] (ls' := [(0, .ref (ad 19)), (2, ii v14)]) rfl ?_
      exact ih13 v14 M13 hI hW hF (by omega) (by omega) (by omega) (by omega) (by omega) (by omega) (by omega) (fun p h => (f12 20 p (fun q => absurd q.1 (by decide))).trans (if hq : p = (y7).toNat then (by rw [hq]; exact sf10) else (f10 20 p (fun q => hq q.2)).trans (i13_5 p (by omega)))) (by omega)
set_option maxHeartbeats 4000000 in
set_option maxRecDepth 4000 in
theorem kp_X6_readPlaces_18 (l : Launch) (M : Mem) (hJ : Iw M) (hp0 : M 18 6 ≤ M 18 5 ∧ M 18 5 ≤ M 18 4 ∧ M 18 7 ≤ 4 * (M 18 5 - M 18 6)) : CV l yX6_readPlaces cX6_readPlaces 2 none 9 (fun ad => [.ref (ad 18)]) M (fun M' => Fr [18, 19, 20, 21] M M' ∧ (M' 18 4 = M 18 4 ∧ M' 18 6 ≤ M' 18 5 ∧ M' 18 5 ≤ M' 18 4 ∧ M' 18 7 ≤ 4 * (M' 18 5 - M' 18 6) ∧ M 18 6 ≤ M' 18 6) ∧ (Im (M 18 1 = 0) (Im (M 19 0 = 0 ∧ M 19 2 = 0 ∧ M 19 3 = 0 ∧ M 19 4 = 0) (tC M' = stopF (fz (numB 1 10 noB (mustW w_places (absC M))) (openD (s_vl (mustW w_places (absC M))))))))) := by
  obtain ⟨hI, hW⟩ := hJ
  have hF : Fr [18, 19, 20, 21] M M := Fr.rf
  refine en_v (by decide +kernel) (fun ad => by exact Nat.le_of_ble_eq_true rfl) (fun D cy ad A p e s m args below meth c Q F hret => ?_)
  refine z_eq (ls' := [(0, .ref (ad 18))]) rfl rfl rfl ?_
  refine z_aload_n F dX6_readPlaces_0 rfl (q := 0) rfl ?_
  refine z_ldcS (j := 2) F dX6_readPlaces_1 rfl rfl rfl ?_
  refine z_eq (st' := [.ref (ad 1002), .ref (ad 18)]) rfl rfl rfl ?_
  refine zv_v (rest := []) F (kp_X6_needWord_18_1002 l M ⟨hI, hW⟩ (by omega)) cs_X6_106 (T := TX6) (N := 9) (ci := 6) rfl gs_18 (by decide) (by decide) rfl rfl rfl (Nat.le_of_ble_eq_true rfl) dX6_readPlaces_3 (fun M1 hI p2 => ?_)
  obtain ⟨hI, hW⟩ := hI
  obtain ⟨fp2, xp2, yp2⟩ := p2
  have hF := hF.call fp2 (by decide)
  have tM1_19_0 : M1 19 0 = M 19 0 := fp2.at (by decide)
  have tM1_19_1 : M1 19 1 = M 19 1 := fp2.at (by decide)
  have tM1_19_2 : M1 19 2 = M 19 2 := fp2.at (by decide)
  have tM1_19_3 : M1 19 3 = M 19 3 := fp2.at (by decide)
  have tM1_19_4 : M1 19 4 = M 19 4 := fp2.at (by decide)
  refine z_aload_n F dX6_readPlaces_6 rfl (q := 0) rfl ?_
  refine z_iconst F dX6_readPlaces_7 ?_
  refine z_bipush F dX6_readPlaces_8 (by decide +kernel) ?_
  refine zv_i (rest := []) F (kp_X6_takeNumber_18 l M1 ⟨hI, hW⟩ 1 (by omega) (by omega) 10 (by omega) (by omega) (by omega)) cs_X6_110 (T := TX6) (N := 9) (ci := 6) rfl gs_18 (by decide) (by decide) rfl rfl rfl (Nat.le_of_ble_eq_true rfl) dX6_readPlaces_10 (fun v3 M4 rv3 hI p5 => ?_)
  obtain ⟨hI, hW⟩ := hI
  obtain ⟨⟨av3, bv3⟩, fp5, xp5, yp5⟩ := p5
  have hF := hF.call fp5 (by decide)
  have tM4_19_0 : M4 19 0 = M1 19 0 := fp5.at (by decide)
  have tM4_19_1 : M4 19 1 = M1 19 1 := fp5.at (by decide)
  have tM4_19_2 : M4 19 2 = M1 19 2 := fp5.at (by decide)
  have tM4_19_3 : M4 19 3 = M1 19 3 := fp5.at (by decide)
  have tM4_19_4 : M4 19 4 = M1 19 4 := fp5.at (by decide)
  have hkv3 : -1 ≤ v3 ∧ v3 ≤ 10 := by omega
  refine z_istore_n F dX6_readPlaces_13 rfl (by decide) (ls' := [(1, ii v3), (0, .ref (ad 18))]) rfl ?_
  refine z_aload_n F dX6_readPlaces_14 rfl (q := 1) rfl ?_
  refine rf_X6_12 F gs_18 rfl dX6_readPlaces_15 ?_
  refine z_iload_n F dX6_readPlaces_18 rfl (q := 0) rfl ?_
  refine zv_v (rest := []) F (kp_X9_open_19 l M4 ⟨hI, hW⟩ v3 (by omega) (by omega)) cs_X6_114 (T := TX9) (N := 18) (ci := 9) rfl gs_19 (by decide) (by decide) rfl rfl rfl (Nat.le_of_ble_eq_true rfl) dX6_readPlaces_19 (fun M6 hI p7 => ?_)
  obtain ⟨hI, hW⟩ := hI
  obtain ⟨fp7, xp7, yp7⟩ := p7
  have hF := hF.call fp7 (by decide)
  have tM6_18_1 : M6 18 1 = M4 18 1 := fp7.at (by decide)
  have tM6_18_4 : M6 18 4 = M4 18 4 := fp7.at (by decide)
  have tM6_18_5 : M6 18 5 = M4 18 5 := fp7.at (by decide)
  have tM6_18_6 : M6 18 6 = M4 18 6 := fp7.at (by decide)
  have tM6_18_7 : M6 18 7 = M4 18 7 := fp7.at (by decide)
  refine z_aload_n F dX6_readPlaces_22 rfl (q := 1) rfl ?_
  refine zv_v (rest := []) F (kp_X6_endLine_18 l M6 ⟨hI, hW⟩ (by omega)) cs_X6_117 (T := TX6) (N := 9) (ci := 6) rfl gs_18 (by decide) (by decide) rfl rfl rfl (Nat.le_of_ble_eq_true rfl) dX6_readPlaces_23 (fun M8 hI p9 => ?_)
  obtain ⟨hI, hW⟩ := hI
  obtain ⟨fp9, xp9, yp9⟩ := p9
  have hF := hF.call fp9 (by decide)
  have yy10 : Im (M 18 1 = 0) (Im (M 19 0 = 0 ∧ M 19 2 = 0 ∧ M 19 3 = 0 ∧ M 19 4 = 0) (tC M8 = stopF (fz (numB 1 10 noB (mustW w_places (absC M))) (openD (s_vl (mustW w_places (absC M))))))) := fun h0 hc => by
    have t3 : tC M6 = fz (numB 1 10 noB (mustW w_places (absC M))) (openD (s_vl (mustW w_places (absC M)))) := fz_e ((absC_eq (fun j => (fp7.at (by decide) : M6 18 j = _)) (fun j => (fp7.at (by decide) : M6 1 j = _)) : absC M6 = absC M4).trans (by rw [yp2]; exact yp5.1.symm)) (fun q => by
      have q2 : M4 18 1 = 0 := by rw [yp2, yp5.1, vC_fl] at q; exact q
      rw [yp2, ← yp5.2 q2]
      exact dC_open (by omega) (fun p h => yp7 p (by omega)) (by omega) (by omega) (by omega) (by omega))
    rw [← t3]
    exact yp9
  exact hret _ 26 _ ⟨hI, hW⟩ ⟨hF, (by omega), yy10⟩ dX6_readPlaces_26
set_option maxHeartbeats 4000000 in
set_option maxRecDepth 4000 in
theorem kp_X6_read_18 (l : Launch) (M : Mem) (hJ : Iw M) (x0 : Int) (hx0a : 0 ≤ x0) (hx0b : x0 ≤ 900) : CV l yX6_read cX6_read 3 none 75 (fun ad => [.ref (ad 18), ii x0]) M (fun M' => Fr [18, 19, 20, 21, 22, 23, 24, 25, 26, 27, 28, 29, 30, 31, 32] M M' ∧ ((tC M' = townF (UTC M x0) x0) ∧ Im (M' 18 1 = 0) (gW 19 M'))) := by
  obtain ⟨hI, hW⟩ := hJ
  have hF : Fr [18, 19, 20, 21, 22, 23, 24, 25, 26, 27, 28, 29, 30, 31, 32] M M := Fr.rf
  refine en_v (by decide +kernel) (fun ad => by exact Nat.le_of_ble_eq_true rfl) (fun D cy ad A p e s m args below meth c Q F hret => ?_)
  refine z_eq (ls' := [(0, .ref (ad 18)), (1, ii x0)]) rfl rfl rfl ?_
  refine z_aload_n F dX6_read_0 rfl (q := 0) rfl ?_
  refine z_iload_n F dX6_read_1 rfl (q := 1) rfl ?_
  refine z_iconst F dX6_read_2 ?_
  refine z_aload_n F dX6_read_3 rfl (q := 0) rfl ?_
  refine rf_X6_22 F gs_18 rfl dX6_read_4 ?_
  refine z_alen (x := 900) F gs_1 rfl rfl dX6_read_7 ?_
  refine zn_i (rest := [.ref (ad 18)]) F (k_X11_keptWithin l M ⟨hI, hW⟩ x0 (by omega) (by omega) 0 (by omega) (by omega) 900 (by omega) (by omega)) cs_X6_26 (by decide) (by decide) rfl rfl rfl (Nat.le_of_ble_eq_true rfl) dX6_read_8 (fun v1 M2 rv1 hI p3 => ?_)
  obtain ⟨hI, hW⟩ := hI
  obtain ⟨⟨av1, bv1⟩, rfl, xp3⟩ := p3
  have hkv1 : 0 ≤ v1 ∧ v1 ≤ 900 := by omega
  refine pf_X6_30 F hI gs_18 rfl bd_18_4 rfl rfl dX6_read_11 (by omega) (by omega) (fun M5 hI sf4 f4 => ?_)
  have tM5_18_1 : M5 18 1 = M 18 1 := f4 18 1 (fun q => absurd q.2 (by decide))
  have tM5_18_2 : M5 18 2 = M 18 2 := f4 18 2 (fun q => absurd q.2 (by decide))
  have tM5_18_5 : M5 18 5 = M 18 5 := f4 18 5 (fun q => absurd q.2 (by decide))
  have tM5_18_6 : M5 18 6 = M 18 6 := f4 18 6 (fun q => absurd q.2 (by decide))
  have tM5_18_7 : M5 18 7 = M 18 7 := f4 18 7 (fun q => absurd q.2 (by decide))
  have tM5_18_8 : M5 18 8 = M 18 8 := f4 18 8 (fun q => absurd q.2 (by decide))
  have tM5_19_0 : M5 19 0 = M 19 0 := f4 19 0 (fun q => absurd q.1 (by decide))
  have tM5_19_1 : M5 19 1 = M 19 1 := f4 19 1 (fun q => absurd q.1 (by decide))
  have tM5_19_2 : M5 19 2 = M 19 2 := f4 19 2 (fun q => absurd q.1 (by decide))
  have tM5_19_3 : M5 19 3 = M 19 3 := f4 19 3 (fun q => absurd q.1 (by decide))
  have tM5_19_4 : M5 19 4 = M 19 4 := f4 19 4 (fun q => absurd q.1 (by decide))
  have hF := hF.wr f4 (by decide) (by decide)
  have hW : WFk M5 := hW.site f4 (by decide)
  refine z_aload_n F dX6_read_14 rfl (q := 0) rfl ?_
  refine z_iconst F dX6_read_15 ?_
  refine pf_X6_33 F hI gs_18 rfl bd_18_5 rfl rfl dX6_read_16 (by omega) (by omega) (fun M7 hI sf6 f6 => ?_)
  have tM7_18_1 : M7 18 1 = M5 18 1 := f6 18 1 (fun q => absurd q.2 (by decide))
  have tM7_18_2 : M7 18 2 = M5 18 2 := f6 18 2 (fun q => absurd q.2 (by decide))
  have tM7_18_4 : M7 18 4 = M5 18 4 := f6 18 4 (fun q => absurd q.2 (by decide))
  have tM7_18_6 : M7 18 6 = M5 18 6 := f6 18 6 (fun q => absurd q.2 (by decide))
  have tM7_18_7 : M7 18 7 = M5 18 7 := f6 18 7 (fun q => absurd q.2 (by decide))
  have tM7_18_8 : M7 18 8 = M5 18 8 := f6 18 8 (fun q => absurd q.2 (by decide))
  have tM7_19_0 : M7 19 0 = M5 19 0 := f6 19 0 (fun q => absurd q.1 (by decide))
  have tM7_19_1 : M7 19 1 = M5 19 1 := f6 19 1 (fun q => absurd q.1 (by decide))
  have tM7_19_2 : M7 19 2 = M5 19 2 := f6 19 2 (fun q => absurd q.1 (by decide))
  have tM7_19_3 : M7 19 3 = M5 19 3 := f6 19 3 (fun q => absurd q.1 (by decide))
  have tM7_19_4 : M7 19 4 = M5 19 4 := f6 19 4 (fun q => absurd q.1 (by decide))
  have hF := hF.wr f6 (by decide) (by decide)
  have hW : WFk M7 := hW.site f6 (by decide)
  refine z_aload_n F dX6_read_19 rfl (q := 0) rfl ?_
  refine z_iconst F dX6_read_20 ?_
  refine pf_X6_36 F hI gs_18 rfl bd_18_1 rfl rfl dX6_read_21 (by omega) (by omega) (fun M9 hI sf8 f8 => ?_)
  have tM9_18_2 : M9 18 2 = M7 18 2 := f8 18 2 (fun q => absurd q.2 (by decide))
  have tM9_18_4 : M9 18 4 = M7 18 4 := f8 18 4 (fun q => absurd q.2 (by decide))
  have tM9_18_5 : M9 18 5 = M7 18 5 := f8 18 5 (fun q => absurd q.2 (by decide))
  have tM9_18_6 : M9 18 6 = M7 18 6 := f8 18 6 (fun q => absurd q.2 (by decide))
  have tM9_18_7 : M9 18 7 = M7 18 7 := f8 18 7 (fun q => absurd q.2 (by decide))
  have tM9_18_8 : M9 18 8 = M7 18 8 := f8 18 8 (fun q => absurd q.2 (by decide))
  have tM9_19_0 : M9 19 0 = M7 19 0 := f8 19 0 (fun q => absurd q.1 (by decide))
  have tM9_19_1 : M9 19 1 = M7 19 1 := f8 19 1 (fun q => absurd q.1 (by decide))
  have tM9_19_2 : M9 19 2 = M7 19 2 := f8 19 2 (fun q => absurd q.1 (by decide))
  have tM9_19_3 : M9 19 3 = M7 19 3 := f8 19 3 (fun q => absurd q.1 (by decide))
  have tM9_19_4 : M9 19 4 = M7 19 4 := f8 19 4 (fun q => absurd q.1 (by decide))
  have hF := hF.wr f8 (by decide) (by decide)
  have hW : WFk M9 := hW.site f8 (by decide)
  refine z_aload_n F dX6_read_24 rfl (q := 0) rfl ?_
  refine z_iconst F dX6_read_25 ?_
  refine pf_X6_18 F hI gs_18 rfl bd_18_2 rfl rfl dX6_read_26 (by omega) (by omega) (fun M11 hI sf10 f10 => ?_)
  have tM11_18_1 : M11 18 1 = M9 18 1 := f10 18 1 (fun q => absurd q.2 (by decide))
  have tM11_18_4 : M11 18 4 = M9 18 4 := f10 18 4 (fun q => absurd q.2 (by decide))
  have tM11_18_5 : M11 18 5 = M9 18 5 := f10 18 5 (fun q => absurd q.2 (by decide))
  have tM11_18_6 : M11 18 6 = M9 18 6 := f10 18 6 (fun q => absurd q.2 (by decide))
  have tM11_18_7 : M11 18 7 = M9 18 7 := f10 18 7 (fun q => absurd q.2 (by decide))
  have tM11_18_8 : M11 18 8 = M9 18 8 := f10 18 8 (fun q => absurd q.2 (by decide))
  have tM11_19_0 : M11 19 0 = M9 19 0 := f10 19 0 (fun q => absurd q.1 (by decide))
  have tM11_19_1 : M11 19 1 = M9 19 1 := f10 19 1 (fun q => absurd q.1 (by decide))
  have tM11_19_2 : M11 19 2 = M9 19 2 := f10 19 2 (fun q => absurd q.1 (by decide))
  have tM11_19_3 : M11 19 3 = M9 19 3 := f10 19 3 (fun q => absurd q.1 (by decide))
  have tM11_19_4 : M11 19 4 = M9 19 4 := f10 19 4 (fun q => absurd q.1 (by decide))
  have hF := hF.wr f10 (by decide) (by decide)
  have hW : WFk M11 := hW.site f10 (by decide)
  refine z_aload_n F dX6_read_29 rfl (q := 0) rfl ?_
  refine rf_X6_12 F gs_18 rfl dX6_read_30 ?_
  refine zv_v (rest := []) F (k_X9_clear_19 l M11 ⟨hI, hW⟩) cs_X6_39 (T := TX9) (N := 18) (ci := 9) rfl gs_19 (by decide) (by decide) rfl rfl rfl (Nat.le_of_ble_eq_true rfl) dX6_read_33 (fun M12 hI p13 => ?_)
  obtain ⟨hI, hW⟩ := hI
  obtain ⟨fp13, xp13⟩ := p13
  have hF := hF.call fp13 (by decide)
  have tM12_18_1 : M12 18 1 = M11 18 1 := fp13.at (by decide)
  have tM12_18_2 : M12 18 2 = M11 18 2 := fp13.at (by decide)
  have tM12_18_4 : M12 18 4 = M11 18 4 := fp13.at (by decide)
  have tM12_18_5 : M12 18 5 = M11 18 5 := fp13.at (by decide)
  have tM12_18_6 : M12 18 6 = M11 18 6 := fp13.at (by decide)
  have tM12_18_7 : M12 18 7 = M11 18 7 := fp13.at (by decide)
  have tM12_18_8 : M12 18 8 = M11 18 8 := fp13.at (by decide)
  have u0 : UC M12 = UTC M x0 := by
    funext j
    unfold UC UTC
    rw [show M12 18 4 = x0 from by omega, show M12 1 j = M 1 j from hF.at (by decide)]
  refine z_aload_n F dX6_read_36 rfl (q := 0) rfl ?_
  refine zv_v (rest := []) F (kp_X6_advance_18 l M12 ⟨hI, hW⟩ (by omega)) cs_X6_42 (T := TX6) (N := 9) (ci := 6) rfl gs_18 (by decide) (by decide) rfl rfl rfl (Nat.le_of_ble_eq_true rfl) dX6_read_37 (fun M14 hI p15 => ?_)
  obtain ⟨hI, hW⟩ := hI
  obtain ⟨fp15, xp15, yp15⟩ := p15
  have hF := hF.call fp15 (by decide)
  have tM14_19_0 : M14 19 0 = M12 19 0 := fp15.at (by decide)
  have tM14_19_1 : M14 19 1 = M12 19 1 := fp15.at (by decide)
  have tM14_19_2 : M14 19 2 = M12 19 2 := fp15.at (by decide)
  have tM14_19_3 : M14 19 3 = M12 19 3 := fp15.at (by decide)
  have tM14_19_4 : M14 19 4 = M12 19 4 := fp15.at (by decide)
  have t1 : adv (S00 (UTC M x0) x0) = absC M14 := (adv_c (by rw [(vC_tx M12).1, u0]; rfl) (by rw [(vC_tx M12).2]; show x0 = _; omega) (by rw [(vC_tk (show M12 18 1 = 0 by omega)).2.1]; show (0 : Int) = _; omega) (by rw [vC_f0 (show M12 18 1 = 0 by omega)]; show (0 : Int) = _; omega)).trans (yp15 (by omega))
  refine z_aload_n F dX6_read_40 rfl (q := 0) rfl ?_
  refine zv_v (rest := []) F (kp_X6_readPlaces_18 l M14 ⟨hI, hW⟩ (by omega)) cs_X6_45 (T := TX6) (N := 9) (ci := 6) rfl gs_18 (by decide) (by decide) rfl rfl rfl (Nat.le_of_ble_eq_true rfl) dX6_read_41 (fun M16 hI p17 => ?_)
  obtain ⟨hI, hW⟩ := hI
  obtain ⟨fp17, xp17, yp17⟩ := p17
  have hF := hF.call fp17 (by decide)
  have t3 : tC M16 = begF (UTC M x0) x0 := by unfold begF plS; rw [t1]; exact yp17 (by omega) (by omega)
  refine z_iconst F dX6_read_44 ?_
  refine z_istore_n F dX6_read_45 rfl (by decide) (ls' := [(2, ii 0), (0, .ref (ad 18)), (1, ii x0)]) rfl ?_
  refine z_loc [1, 0] (ls' := [(0, .ref (ad 18)), (2, ii 0)]) rfl ?_
  suffices key46 : ∀ (n : Nat) (y19 : Int) (M18 : Mem), Inv M18 → WFk M18 → Fr [18, 19, 20, 21, 22, 23, 24, 25, 26, 27, 28, 29, 30, 31, 32] M M18 → 0 ≤ y19 → y19 ≤ 900 → (M18 18 6 ≤ M18 18 5 ∧ M18 18 5 ≤ M18 18 4 ∧ M18 18 7 ≤ 4 * (M18 18 5 - M18 18 6)) → (y19 ≤ M18 18 6 ∨ ¬ M18 18 1 = 0) → (LnI (begF (UTC M x0) x0) (tC M18)) → 900 - y19 < (n : Int) → Z D cy ad p l e (RMh 75) s m args below meth c A 3 0 0 Q 46 [(0, .ref (ad 18)), (2, ii y19)] [] M18 from key46 901 0 M16 hI hW hF (by omega) (by omega) (by omega) (by omega) (lnI_0 t3) (by omega)
  intro n46
  induction n46 with
  | zero => intro y19 M18 hI hW hF ay19 by19 i46_0 i46_1 i46_2 hn46; exfalso; omega
  | succ n46 ih46 =>
    intro y19 M18 hI hW hF ay19 by19 i46_0 i46_1 i46_2 hn46
    refine z_iload_n F dX6_read_46 rfl (q := 1) rfl ?_
    refine z_sipush F dX6_read_47 (by decide +kernel) ?_
    refine z_icmp_ge (tgt := 77) F dX6_read_50 (by decide +kernel) (by omega) (by omega) (fun c20 => ?_) (fun c20 => ?_)
    · have bq4 := hI.at (show Bd 18 4 = (0, 900) from rfl)
      have bq7 := hI.at (show Bd 18 7 = (0, 4) from rfl)
      have t4 : townF (UTC M x0) x0 = tC M18 := townF_eq (lnI_e i46_2 (if hq : M18 18 1 = 0 then Or.inr (by rw [tC_1, (vC_tk (by omega)).1, tkC_lt (c := 0) (by decide) (by decide)]; omega) else Or.inl (by rw [tC_1, vC_fl]; omega)))
      have t5 : SyA (d_a (tC M18).2) := sy_ln (lnI_e i46_2 (if hq : M18 18 1 = 0 then Or.inr (by rw [tC_1, (vC_tk (by omega)).1, tkC_lt (c := 0) (by decide) (by decide)]; omega) else Or.inl (by rw [tC_1, vC_fl]; omega)))
      have t6 : IrA (d_a (tC M18).2) := ir_ln (lnI_e i46_2 (if hq : M18 18 1 = 0 then Or.inr (by rw [tC_1, (vC_tk (by omega)).1, tkC_lt (c := 0) (by decide) (by decide)]; omega) else Or.inl (by rw [tC_1, vC_fl]; omega)))
      refine z_aload_n F dX6_read_77 rfl (q := 0) rfl ?_
      refine gf_X6_36 F hI gs_18 rfl bd_18_1 dX6_read_78 (fun v21 ev21 av21 bv21 => ?_)
      refine z_if_ne (tgt := 91) F dX6_read_81 (by decide +kernel) (by omega) (fun c22 => ?_) (fun c22 => ?_)
      · exact hret _ 91 _ ⟨hI, hW⟩ ⟨hF, ⟨((tC_e (rfl : absC M18 = absC M18) (rfl : dC M18 = dC M18)).trans t4.symm), (fun q => by exfalso; omega)⟩⟩ dX6_read_91
      · refine z_aload_n F dX6_read_84 rfl (q := 0) rfl ?_
        refine rf_X6_12 F gs_18 rfl dX6_read_85 ?_
        refine zv_v (rest := []) F (k_X9_settle_19 l M18 ⟨hI, hW⟩) cs_X6_54 (T := TX9) (N := 18) (ci := 9) rfl gs_19 (by decide) (by decide) rfl rfl rfl (Nat.le_of_ble_eq_true rfl) dX6_read_88 (fun M23 hI p24 => ?_)
        obtain ⟨hI, hW⟩ := hI
        obtain ⟨fp24, yp24⟩ := p24
        have hF := hF.call fp24 (by decide)
        have tM23_18_1 : M23 18 1 = M18 18 1 := fp24.at (by decide)
        have tM23_18_2 : M23 18 2 = M18 18 2 := fp24.at (by decide)
        have tM23_18_4 : M23 18 4 = M18 18 4 := fp24.at (by decide)
        have tM23_18_5 : M23 18 5 = M18 18 5 := fp24.at (by decide)
        have tM23_18_6 : M23 18 6 = M18 18 6 := fp24.at (by decide)
        have tM23_18_7 : M23 18 7 = M18 18 7 := fp24.at (by decide)
        have tM23_18_8 : M23 18 8 = M18 18 8 := fp24.at (by decide)
        have tM23_19_0 : M23 19 0 = M18 19 0 := fp24.at (by decide)
        have tM23_19_1 : M23 19 1 = M18 19 1 := fp24.at (by decide)
        have tM23_19_2 : M23 19 2 = M18 19 2 := fp24.at (by decide)
        have tM23_19_3 : M23 19 3 = M18 19 3 := fp24.at (by decide)
        have tM23_19_4 : M23 19 4 = M18 19 4 := fp24.at (by decide)
        exact hret _ 91 _ ⟨hI, hW⟩ ⟨hF, ⟨((tC_e (absC_eq (fun j => (fp24.at (by decide) : M23 18 j = _)) (fun j => (fp24.at (by decide) : M23 1 j = _)) : absC M23 = absC M18) (show dC M23 = dC M18 from dC_fr fp24 (by decide))).trans t4.symm), (fun _ => ⟨sy_c t5 (by omega) yp24, ir_c t6 (by omega) yp24⟩)⟩⟩ dX6_read_91
    · refine z_aload_n F dX6_read_53 rfl (q := 0) rfl ?_
      refine gf_X6_36 F hI gs_18 rfl bd_18_1 dX6_read_54 (fun v25 ev25 av25 bv25 => ?_)
      refine z_if_ne (tgt := 77) F dX6_read_57 (by decide +kernel) (by omega) (fun c26 => ?_) (fun c26 => ?_)
      · have bq4 := hI.at (show Bd 18 4 = (0, 900) from rfl)
        have bq7 := hI.at (show Bd 18 7 = (0, 4) from rfl)
        have t4 : townF (UTC M x0) x0 = tC M18 := townF_eq (lnI_e i46_2 (Or.inl (by rw [tC_1, vC_fl]; omega)))
        have t5 : SyA (d_a (tC M18).2) := sy_ln (lnI_e i46_2 (Or.inl (by rw [tC_1, vC_fl]; omega)))
        have t6 : IrA (d_a (tC M18).2) := ir_ln (lnI_e i46_2 (Or.inl (by rw [tC_1, vC_fl]; omega)))
        refine z_aload_n F dX6_read_77 rfl (q := 0) rfl ?_
        refine gf_X6_36 F hI gs_18 rfl bd_18_1 dX6_read_78 (fun v27 ev27 av27 bv27 => ?_)
        have zv27 : v25 = v27 := ev25.trans ev27.symm
        subst zv27
        refine z_if_ne (tgt := 91) F dX6_read_81 (by decide +kernel) (by omega) (fun c28 => ?_) (fun c28 => ?_)
        · exact hret _ 91 _ ⟨hI, hW⟩ ⟨hF, ⟨((tC_e (rfl : absC M18 = absC M18) (rfl : dC M18 = dC M18)).trans t4.symm), (fun q => by exfalso; omega)⟩⟩ dX6_read_91
        · refine z_aload_n F dX6_read_84 rfl (q := 0) rfl ?_
          refine rf_X6_12 F gs_18 rfl dX6_read_85 ?_
          refine zv_v (rest := []) F (k_X9_settle_19 l M18 ⟨hI, hW⟩) cs_X6_54 (T := TX9) (N := 18) (ci := 9) rfl gs_19 (by decide) (by decide) rfl rfl rfl (Nat.le_of_ble_eq_true rfl) dX6_read_88 (fun M29 hI p30 => ?_)
          obtain ⟨hI, hW⟩ := hI
          obtain ⟨fp30, yp30⟩ := p30
          have hF := hF.call fp30 (by decide)
          have tM29_18_1 : M29 18 1 = M18 18 1 := fp30.at (by decide)
          have tM29_18_2 : M29 18 2 = M18 18 2 := fp30.at (by decide)
          have tM29_18_4 : M29 18 4 = M18 18 4 := fp30.at (by decide)
          have tM29_18_5 : M29 18 5 = M18 18 5 := fp30.at (by decide)
          have tM29_18_6 : M29 18 6 = M18 18 6 := fp30.at (by decide)
          have tM29_18_7 : M29 18 7 = M18 18 7 := fp30.at (by decide)
          have tM29_18_8 : M29 18 8 = M18 18 8 := fp30.at (by decide)
          have tM29_19_0 : M29 19 0 = M18 19 0 := fp30.at (by decide)
          have tM29_19_1 : M29 19 1 = M18 19 1 := fp30.at (by decide)
          have tM29_19_2 : M29 19 2 = M18 19 2 := fp30.at (by decide)
          have tM29_19_3 : M29 19 3 = M18 19 3 := fp30.at (by decide)
          have tM29_19_4 : M29 19 4 = M18 19 4 := fp30.at (by decide)
          exact hret _ 91 _ ⟨hI, hW⟩ ⟨hF, ⟨((tC_e (absC_eq (fun j => (fp30.at (by decide) : M29 18 j = _)) (fun j => (fp30.at (by decide) : M29 1 j = _)) : absC M29 = absC M18) (show dC M29 = dC M18 from dC_fr fp30 (by decide))).trans t4.symm), (fun _ => ⟨sy_c t5 (by omega) yp30, ir_c t6 (by omega) yp30⟩)⟩⟩ dX6_read_91
      · refine z_aload_n F dX6_read_60 rfl (q := 0) rfl ?_
        refine gf_X6_48 F hI gs_18 rfl bd_18_7 dX6_read_61 (fun v31 ev31 av31 bv31 => ?_)
        refine z_if_eq (tgt := 77) F dX6_read_64 (by decide +kernel) (by omega) (fun c32 => ?_) (fun c32 => ?_)
        · have bq4 := hI.at (show Bd 18 4 = (0, 900) from rfl)
          have bq7 := hI.at (show Bd 18 7 = (0, 4) from rfl)
          have t4 : townF (UTC M x0) x0 = tC M18 := townF_eq (lnI_e i46_2 (Or.inr (by rw [tC_1, (vC_tk (by omega)).1, tkC_lt (c := 0) (by decide) (by decide)]; omega)))
          have t5 : SyA (d_a (tC M18).2) := sy_ln (lnI_e i46_2 (Or.inr (by rw [tC_1, (vC_tk (by omega)).1, tkC_lt (c := 0) (by decide) (by decide)]; omega)))
          have t6 : IrA (d_a (tC M18).2) := ir_ln (lnI_e i46_2 (Or.inr (by rw [tC_1, (vC_tk (by omega)).1, tkC_lt (c := 0) (by decide) (by decide)]; omega)))
          refine z_aload_n F dX6_read_77 rfl (q := 0) rfl ?_
          refine gf_X6_36 F hI gs_18 rfl bd_18_1 dX6_read_78 (fun v33 ev33 av33 bv33 => ?_)
          have zv33 : v25 = v33 := ev25.trans ev33.symm
          subst zv33
          refine z_if_ne (tgt := 91) F dX6_read_81 (by decide +kernel) (by omega) (fun c34 => by exfalso; omega) (fun c34 => ?_)
          refine z_aload_n F dX6_read_84 rfl (q := 0) rfl ?_
          refine rf_X6_12 F gs_18 rfl dX6_read_85 ?_
          refine zv_v (rest := []) F (k_X9_settle_19 l M18 ⟨hI, hW⟩) cs_X6_54 (T := TX9) (N := 18) (ci := 9) rfl gs_19 (by decide) (by decide) rfl rfl rfl (Nat.le_of_ble_eq_true rfl) dX6_read_88 (fun M35 hI p36 => ?_)
          obtain ⟨hI, hW⟩ := hI
          obtain ⟨fp36, yp36⟩ := p36
          have hF := hF.call fp36 (by decide)
          have tM35_18_1 : M35 18 1 = M18 18 1 := fp36.at (by decide)
          have tM35_18_2 : M35 18 2 = M18 18 2 := fp36.at (by decide)
          have tM35_18_4 : M35 18 4 = M18 18 4 := fp36.at (by decide)
          have tM35_18_5 : M35 18 5 = M18 18 5 := fp36.at (by decide)
          have tM35_18_6 : M35 18 6 = M18 18 6 := fp36.at (by decide)
          have tM35_18_7 : M35 18 7 = M18 18 7 := fp36.at (by decide)
          have tM35_18_8 : M35 18 8 = M18 18 8 := fp36.at (by decide)
          have tM35_19_0 : M35 19 0 = M18 19 0 := fp36.at (by decide)
          have tM35_19_1 : M35 19 1 = M18 19 1 := fp36.at (by decide)
          have tM35_19_2 : M35 19 2 = M18 19 2 := fp36.at (by decide)
          have tM35_19_3 : M35 19 3 = M18 19 3 := fp36.at (by decide)
          have tM35_19_4 : M35 19 4 = M18 19 4 := fp36.at (by decide)
          exact hret _ 91 _ ⟨hI, hW⟩ ⟨hF, ⟨((tC_e (absC_eq (fun j => (fp36.at (by decide) : M35 18 j = _)) (fun j => (fp36.at (by decide) : M35 1 j = _)) : absC M35 = absC M18) (show dC M35 = dC M18 from dC_fr fp36 (by decide))).trans t4.symm), (fun _ => ⟨sy_c t5 (by omega) yp36, ir_c t6 (by omega) yp36⟩)⟩⟩ dX6_read_91
        · refine z_aload_n F dX6_read_67 rfl (q := 0) rfl ?_
          refine zv_v (rest := []) F (kp_X6_readLine_18 l M18 ⟨hI, hW⟩ (by omega)) cs_X6_51 (T := TX6) (N := 9) (ci := 6) rfl gs_18 (by decide) (by decide) rfl rfl rfl (Nat.le_of_ble_eq_true rfl) dX6_read_68 (fun M37 hI p38 => ?_)
          obtain ⟨hI, hW⟩ := hI
          obtain ⟨fp38, xp38, yp38⟩ := p38
          have hF := hF.call fp38 (by decide)
          refine z_iincN F dX6_read_71 (q := 1) rfl (by decide) (fun v39 ev39 => ?_)
          refine z_eq (ls' := [(2, ii v39), (0, .ref (ad 18))]) rfl rfl rfl ?_
          refine z_goto (tgt := 46) F dX6_read_74 (by decide +kernel) ?_
          refine z_loc [1, 0] (ls' := [(0, .ref (ad 18)), (2, ii v39)]) rfl ?_
          exact ih46 v39 M37 hI hW hF (by omega) (by omega) (by omega) (by omega) (lnI_s i46_2 (by rw [tC_1, vC_fl]; omega) (by rw [tC_1, (vC_tk (by omega)).1, tkC_lt (c := 0) (by decide) (by decide)]; omega) (yp38 (by omega))) (by omega)
