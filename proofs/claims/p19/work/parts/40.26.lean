theorem dX6_nameHere_0 : decode cX6_nameHere 0 = .ok (.aload_n 0, 1) := by decide +kernel
theorem dX6_nameHere_1 : decode cX6_nameHere 1 = .ok (.ldc_w 271, 3) := by decide +kernel
theorem dX6_nameHere_10 : decode cX6_nameHere 10 = .ok (.iconst (-1), 1) := by decide +kernel
theorem dX6_nameHere_101 : decode cX6_nameHere 101 = .ok (.ireturn, 1) := by decide +kernel
theorem dX6_nameHere_102 : decode cX6_nameHere 102 = .ok (.iconst 0, 1) := by decide +kernel
theorem dX6_nameHere_103 : decode cX6_nameHere 103 = .ok (.ireturn, 1) := by decide +kernel
theorem dX6_nameHere_11 : decode cX6_nameHere 11 = .ok (.ireturn, 1) := by decide +kernel
theorem dX6_nameHere_12 : decode cX6_nameHere 12 = .ok (.aload_n 0, 1) := by decide +kernel
theorem dX6_nameHere_13 : decode cX6_nameHere 13 = .ok (.ldc_w 273, 3) := by decide +kernel
theorem dX6_nameHere_16 : decode cX6_nameHere 16 = .ok (.invokevirtual 86, 3) := by decide +kernel
theorem dX6_nameHere_19 : decode cX6_nameHere 19 = .ok (.ifCond .eq 6, 3) := by decide +kernel
theorem dX6_nameHere_22 : decode cX6_nameHere 22 = .ok (.bipush (-2), 2) := by decide +kernel
theorem dX6_nameHere_24 : decode cX6_nameHere 24 = .ok (.ireturn, 1) := by decide +kernel
theorem dX6_nameHere_25 : decode cX6_nameHere 25 = .ok (.aload_n 0, 1) := by decide +kernel
theorem dX6_nameHere_26 : decode cX6_nameHere 26 = .ok (.ldc_w 275, 3) := by decide +kernel
theorem dX6_nameHere_29 : decode cX6_nameHere 29 = .ok (.invokevirtual 86, 3) := by decide +kernel
theorem dX6_nameHere_32 : decode cX6_nameHere 32 = .ok (.ifCond .eq 6, 3) := by decide +kernel
theorem dX6_nameHere_35 : decode cX6_nameHere 35 = .ok (.bipush (-3), 2) := by decide +kernel
theorem dX6_nameHere_37 : decode cX6_nameHere 37 = .ok (.ireturn, 1) := by decide +kernel
theorem dX6_nameHere_38 : decode cX6_nameHere 38 = .ok (.aload_n 0, 1) := by decide +kernel
theorem dX6_nameHere_39 : decode cX6_nameHere 39 = .ok (.ldc_w 277, 3) := by decide +kernel
theorem dX6_nameHere_4 : decode cX6_nameHere 4 = .ok (.invokevirtual 86, 3) := by decide +kernel
theorem dX6_nameHere_42 : decode cX6_nameHere 42 = .ok (.invokevirtual 86, 3) := by decide +kernel
theorem dX6_nameHere_45 : decode cX6_nameHere 45 = .ok (.ifCond .eq 6, 3) := by decide +kernel
theorem dX6_nameHere_48 : decode cX6_nameHere 48 = .ok (.bipush (-4), 2) := by decide +kernel
theorem dX6_nameHere_50 : decode cX6_nameHere 50 = .ok (.ireturn, 1) := by decide +kernel
theorem dX6_nameHere_51 : decode cX6_nameHere 51 = .ok (.aload_n 0, 1) := by decide +kernel
theorem dX6_nameHere_52 : decode cX6_nameHere 52 = .ok (.ldc_w 279, 3) := by decide +kernel
theorem dX6_nameHere_55 : decode cX6_nameHere 55 = .ok (.invokevirtual 86, 3) := by decide +kernel
theorem dX6_nameHere_58 : decode cX6_nameHere 58 = .ok (.ifCond .eq 6, 3) := by decide +kernel
theorem dX6_nameHere_61 : decode cX6_nameHere 61 = .ok (.bipush (-5), 2) := by decide +kernel
theorem dX6_nameHere_63 : decode cX6_nameHere 63 = .ok (.ireturn, 1) := by decide +kernel
theorem dX6_nameHere_64 : decode cX6_nameHere 64 = .ok (.aload_n 0, 1) := by decide +kernel
theorem dX6_nameHere_65 : decode cX6_nameHere 65 = .ok (.ldc_w 281, 3) := by decide +kernel
theorem dX6_nameHere_68 : decode cX6_nameHere 68 = .ok (.invokevirtual 86, 3) := by decide +kernel
theorem dX6_nameHere_7 : decode cX6_nameHere 7 = .ok (.ifCond .eq 5, 3) := by decide +kernel
theorem dX6_nameHere_71 : decode cX6_nameHere 71 = .ok (.ifCond .eq 6, 3) := by decide +kernel
theorem dX6_nameHere_74 : decode cX6_nameHere 74 = .ok (.bipush (-6), 2) := by decide +kernel
theorem dX6_nameHere_76 : decode cX6_nameHere 76 = .ok (.ireturn, 1) := by decide +kernel
theorem dX6_nameHere_77 : decode cX6_nameHere 77 = .ok (.aload_n 0, 1) := by decide +kernel
theorem dX6_nameHere_78 : decode cX6_nameHere 78 = .ok (.ldc_w 283, 3) := by decide +kernel
theorem dX6_nameHere_81 : decode cX6_nameHere 81 = .ok (.invokevirtual 86, 3) := by decide +kernel
theorem dX6_nameHere_84 : decode cX6_nameHere 84 = .ok (.ifCond .eq 6, 3) := by decide +kernel
theorem dX6_nameHere_87 : decode cX6_nameHere 87 = .ok (.bipush (-7), 2) := by decide +kernel
theorem dX6_nameHere_89 : decode cX6_nameHere 89 = .ok (.ireturn, 1) := by decide +kernel
theorem dX6_nameHere_90 : decode cX6_nameHere 90 = .ok (.aload_n 0, 1) := by decide +kernel
theorem dX6_nameHere_91 : decode cX6_nameHere 91 = .ok (.ldc 175, 2) := by decide +kernel
theorem dX6_nameHere_93 : decode cX6_nameHere 93 = .ok (.invokevirtual 86, 3) := by decide +kernel
theorem dX6_nameHere_96 : decode cX6_nameHere 96 = .ok (.ifCond .eq 6, 3) := by decide +kernel
theorem dX6_nameHere_99 : decode cX6_nameHere 99 = .ok (.bipush (-8), 2) := by decide +kernel
theorem dX6_readAtom_0 : decode cX6_readAtom 0 = .ok (.aload_n 0, 1) := by decide +kernel
theorem dX6_readAtom_1 : decode cX6_readAtom 1 = .ok (.invokevirtual 268, 3) := by decide +kernel
theorem dX6_readAtom_100 : decode cX6_readAtom 100 = .ok (.return_, 1) := by decide +kernel
theorem dX6_readAtom_11 : decode cX6_readAtom 11 = .ok (.ifCond .eq 27, 3) := by decide +kernel
theorem dX6_readAtom_14 : decode cX6_readAtom 14 = .ok (.aload_n 0, 1) := by decide +kernel
theorem dX6_readAtom_15 : decode cX6_readAtom 15 = .ok (.iload_n 1, 1) := by decide +kernel
theorem dX6_readAtom_16 : decode cX6_readAtom 16 = .ok (.invokevirtual 249, 3) := by decide +kernel
theorem dX6_readAtom_19 : decode cX6_readAtom 19 = .ok (.ifCond .eq 81, 3) := by decide +kernel
theorem dX6_readAtom_22 : decode cX6_readAtom 22 = .ok (.aload_n 0, 1) := by decide +kernel
theorem dX6_readAtom_23 : decode cX6_readAtom 23 = .ok (.iload_n 1, 1) := by decide +kernel
theorem dX6_readAtom_24 : decode cX6_readAtom 24 = .ok (.iconst 1, 1) := by decide +kernel
theorem dX6_readAtom_25 : decode cX6_readAtom 25 = .ok (.iadd, 1) := by decide +kernel
theorem dX6_readAtom_26 : decode cX6_readAtom 26 = .ok (.invokevirtual 253, 3) := by decide +kernel
theorem dX6_readAtom_29 : decode cX6_readAtom 29 = .ok (.aload_n 0, 1) := by decide +kernel
theorem dX6_readAtom_30 : decode cX6_readAtom 30 = .ok (.bipush 41, 2) := by decide +kernel
theorem dX6_readAtom_32 : decode cX6_readAtom 32 = .ok (.invokevirtual 120, 3) := by decide +kernel
theorem dX6_readAtom_35 : decode cX6_readAtom 35 = .ok (.goto 65, 3) := by decide +kernel
theorem dX6_readAtom_38 : decode cX6_readAtom 38 = .ok (.iload_n 2, 1) := by decide +kernel
theorem dX6_readAtom_39 : decode cX6_readAtom 39 = .ok (.ifCond .eq 21, 3) := by decide +kernel
theorem dX6_readAtom_4 : decode cX6_readAtom 4 = .ok (.istore_n 2, 1) := by decide +kernel
theorem dX6_readAtom_42 : decode cX6_readAtom 42 = .ok (.aload_n 0, 1) := by decide +kernel
theorem dX6_readAtom_43 : decode cX6_readAtom 43 = .ok (.getfield 12, 3) := by decide +kernel
theorem dX6_readAtom_46 : decode cX6_readAtom 46 = .ok (.getfield 152, 3) := by decide +kernel
theorem dX6_readAtom_49 : decode cX6_readAtom 49 = .ok (.iload_n 2, 1) := by decide +kernel
theorem dX6_readAtom_5 : decode cX6_readAtom 5 = .ok (.aload_n 0, 1) := by decide +kernel
theorem dX6_readAtom_50 : decode cX6_readAtom 50 = .ok (.invokevirtual 239, 3) := by decide +kernel
theorem dX6_readAtom_53 : decode cX6_readAtom 53 = .ok (.aload_n 0, 1) := by decide +kernel
theorem dX6_readAtom_54 : decode cX6_readAtom 54 = .ok (.invokevirtual 42, 3) := by decide +kernel
theorem dX6_readAtom_57 : decode cX6_readAtom 57 = .ok (.goto 43, 3) := by decide +kernel
theorem dX6_readAtom_6 : decode cX6_readAtom 6 = .ok (.bipush 40, 2) := by decide +kernel
theorem dX6_readAtom_60 : decode cX6_readAtom 60 = .ok (.aload_n 0, 1) := by decide +kernel
theorem dX6_readAtom_61 : decode cX6_readAtom 61 = .ok (.getfield 36, 3) := by decide +kernel
theorem dX6_readAtom_64 : decode cX6_readAtom 64 = .ok (.ifCond .ne 32, 3) := by decide +kernel
theorem dX6_readAtom_67 : decode cX6_readAtom 67 = .ok (.aload_n 0, 1) := by decide +kernel
theorem dX6_readAtom_68 : decode cX6_readAtom 68 = .ok (.getfield 48, 3) := by decide +kernel
theorem dX6_readAtom_71 : decode cX6_readAtom 71 = .ok (.iconst 2, 1) := by decide +kernel
theorem dX6_readAtom_72 : decode cX6_readAtom 72 = .ok (.if_icmp .ne 24, 3) := by decide +kernel
theorem dX6_readAtom_75 : decode cX6_readAtom 75 = .ok (.aload_n 0, 1) := by decide +kernel
theorem dX6_readAtom_76 : decode cX6_readAtom 76 = .ok (.getfield 12, 3) := by decide +kernel
theorem dX6_readAtom_79 : decode cX6_readAtom 79 = .ok (.getfield 152, 3) := by decide +kernel
theorem dX6_readAtom_8 : decode cX6_readAtom 8 = .ok (.invokevirtual 93, 3) := by decide +kernel
theorem dX6_readAtom_82 : decode cX6_readAtom 82 = .ok (.aload_n 0, 1) := by decide +kernel
theorem dX6_readAtom_83 : decode cX6_readAtom 83 = .ok (.getfield 60, 3) := by decide +kernel
theorem dX6_readAtom_86 : decode cX6_readAtom 86 = .ok (.invokevirtual 239, 3) := by decide +kernel
theorem dX6_readAtom_89 : decode cX6_readAtom 89 = .ok (.aload_n 0, 1) := by decide +kernel
theorem dX6_readAtom_90 : decode cX6_readAtom 90 = .ok (.invokevirtual 42, 3) := by decide +kernel
theorem dX6_readAtom_93 : decode cX6_readAtom 93 = .ok (.goto 7, 3) := by decide +kernel
theorem dX6_readAtom_96 : decode cX6_readAtom 96 = .ok (.aload_n 0, 1) := by decide +kernel
theorem dX6_readAtom_97 : decode cX6_readAtom 97 = .ok (.invokevirtual 90, 3) := by decide +kernel
set_option maxHeartbeats 4000000 in
set_option maxRecDepth 4000 in
theorem kp_X6_isWord_18_1025 (l : Launch) (M : Mem) (hJ : Iw M) (hp0 : M 18 6 ≤ M 18 5 ∧ M 18 5 ≤ M 18 4 ∧ M 18 7 ≤ 4 * (M 18 5 - M 18 6)) : CI l yX6_isWord cX6_isWord 3 (some .boolean) 5 (fun ad => [.ref (ad 18), .ref (ad 1025)]) M (fun z M' => (0 ≤ z ∧ z ≤ 1) ∧ M = M' ∧ (M 18 6 + z ≤ M 18 5 ∧ (z = 1 → M 18 1 = 0)) ∧ (WZ z (isW w_evenb (absC M)))) := by
  obtain ⟨hI, hW⟩ := hJ
  refine en_z (by decide +kernel) (fun ad => by exact Nat.le_of_ble_eq_true rfl) (fun D cy ad A p e s m args below meth c Q F hret => ?_)
  refine z_eq (ls' := [(0, .ref (ad 18)), (1, .ref (ad 1025))]) rfl rfl rfl ?_
  obtain ⟨u1, eu1⟩ : ∃ v : Int, v = M 18 1 := ⟨_, rfl⟩
  have ku1 : (-2147483648) ≤ u1 ∧ u1 ≤ 2147483647 := by have := hI.at (show Bd 18 1 = (-2147483648, 2147483647) from rfl); omega
  obtain ⟨u2, eu2⟩ : ∃ v : Int, v = M 18 2 := ⟨_, rfl⟩
  have ku2 : (-2147483648) ≤ u2 ∧ u2 ≤ 2147483647 := by have := hI.at (show Bd 18 2 = (-2147483648, 2147483647) from rfl); omega
  obtain ⟨u3, eu3⟩ : ∃ v : Int, v = M 18 4 := ⟨_, rfl⟩
  have ku3 : 0 ≤ u3 ∧ u3 ≤ 900 := by have := hI.at (show Bd 18 4 = (0, 900) from rfl); omega
  obtain ⟨u4, eu4⟩ : ∃ v : Int, v = M 18 5 := ⟨_, rfl⟩
  have ku4 : 0 ≤ u4 ∧ u4 ≤ 900 := by have := hI.at (show Bd 18 5 = (0, 900) from rfl); omega
  obtain ⟨u5, eu5⟩ : ∃ v : Int, v = M 18 6 := ⟨_, rfl⟩
  have ku5 : 0 ≤ u5 ∧ u5 ≤ 900 := by have := hI.at (show Bd 18 6 = (0, 900) from rfl); omega
  obtain ⟨u6, eu6⟩ : ∃ v : Int, v = M 18 7 := ⟨_, rfl⟩
  have ku6 : 0 ≤ u6 ∧ u6 ≤ 4 := by have := hI.at (show Bd 18 7 = (0, 4) from rfl); omega
  obtain ⟨u7, eu7⟩ : ∃ v : Int, v = M 18 8 := ⟨_, rfl⟩
  have ku7 : (-2147483648) ≤ u7 ∧ u7 ≤ 2147483647 := by have := hI.at (show Bd 18 8 = (-2147483648, 2147483647) from rfl); omega
  refine z_aload_n F dX6_isWord_0 rfl (q := 0) rfl ?_
  refine gf_X6_36 F hI gs_18 rfl bd_18_1 dX6_isWord_1 (fun v8 ev8 av8 bv8 => ?_)
  have zv8 : u1 = v8 := eu1.trans ev8.symm
  subst zv8
  refine z_if_ne (tgt := 31) F dX6_isWord_4 (by decide +kernel) (by omega) (fun c9 => ?_) (fun c9 => ?_)
  · refine z_iconst F dX6_isWord_31 ?_
    exact hret _ _ 32 _ ⟨by omega, by omega⟩ ⟨hI, hW⟩ ⟨⟨by omega, by omega⟩, rfl, (by omega), (iwC_e (k := 0) (iwC_n (by rw [wl_evenb, tkC_lt (c := 1) (by decide) (by decide)]; omega)) (fun q => by exfalso; omega) (by omega) (by omega))⟩ dX6_isWord_32
  · refine z_aload_n F dX6_isWord_7 rfl (q := 0) rfl ?_
    refine gf_X6_48 F hI gs_18 rfl bd_18_7 dX6_isWord_8 (fun v10 ev10 av10 bv10 => ?_)
    have zv10 : u6 = v10 := eu6.trans ev10.symm
    subst zv10
    refine z_iconst F dX6_isWord_11 ?_
    refine z_icmp_ne (tgt := 31) F dX6_isWord_12 (by decide +kernel) (by omega) (by omega) (fun c11 => ?_) (fun c11 => ?_)
    · refine z_iconst F dX6_isWord_31 ?_
      exact hret _ _ 32 _ ⟨by omega, by omega⟩ ⟨hI, hW⟩ ⟨⟨by omega, by omega⟩, rfl, (by omega), (iwC_e (k := 0) (iwC_n (by rw [wl_evenb, tkC_lt (c := 1) (by decide) (by decide)]; omega)) (fun q => by exfalso; omega) (by omega) (by omega))⟩ dX6_isWord_32
    · refine z_aload_n F dX6_isWord_15 rfl (q := 0) rfl ?_
      refine gf_X6_33 F hI gs_18 rfl bd_18_5 dX6_isWord_16 (fun v12 ev12 av12 bv12 => ?_)
      have zv12 : u4 = v12 := eu4.trans ev12.symm
      subst zv12
      refine z_aload_n F dX6_isWord_19 rfl (q := 0) rfl ?_
      refine gf_X6_57 F hI gs_18 rfl bd_18_6 dX6_isWord_20 (fun v13 ev13 av13 bv13 => ?_)
      have zv13 : u5 = v13 := eu5.trans ev13.symm
      subst zv13
      refine z_isub F dX6_isWord_23 ?_
      refine z_aload_n F dX6_isWord_24 rfl (q := 1) rfl ?_
      refine zvs_i (i := 25) (rest := [ii (u4 - u5)]) F (kS_len l M ⟨hI, hW⟩ 25 (by decide)) cs_X6_75 (by decide) (by decide) (by decide) rfl rfl rfl (Nat.le_of_ble_eq_true rfl) dX6_isWord_25 (fun v14 M9 rv14 hI9 pv14 => ?_)
      obtain ⟨ev14, rfl⟩ := pv14
      obtain rfl : v14 = 5 := ev14.trans (show ((sbyt.getD 25 []).length : Int) = 5 from by decide)
      clear hI9
      refine z_icmp_eq (tgt := 33) F dX6_isWord_28 (by decide +kernel) (by omega) (by omega) (fun c15 => ?_) (fun c15 => ?_)
      · refine z_iconst F dX6_isWord_33 ?_
        refine z_istore_n F dX6_isWord_34 rfl (by decide) (ls' := [(2, ii 0), (0, .ref (ad 18)), (1, .ref (ad 1025))]) rfl ?_
        refine z_loc [1, 2, 0] (ls' := [(0, .ref (ad 18)), (1, .ref (ad 1025)), (2, ii 0)]) rfl ?_
        suffices key35 : ∀ (n : Nat) (y17 : Int), 0 ≤ y17 → y17 ≤ 5 → (Iw_C M w_evenb 1 y17) → 5 - y17 < (n : Int) → Z D cy ad p l e (RMh 5) s m args below meth c A 3 0 0 Q 35 [(0, .ref (ad 18)), (1, .ref (ad 1025)), (2, ii y17)] [] M from key35 6 0 (by omega) (by omega) iwC_0 (by omega)
        intro n35
        induction n35 with
        | zero => intro y17 ay17 by17 i35_0 hn35; exfalso; omega
        | succ n35 ih35 =>
          intro y17 ay17 by17 i35_0 hn35
          refine z_iload_n F dX6_isWord_35 rfl (q := 2) rfl ?_
          refine z_aload_n F dX6_isWord_36 rfl (q := 1) rfl ?_
          refine zvs_i (i := 25) (rest := [ii y17]) F (kS_len l M ⟨hI, hW⟩ 25 (by decide)) cs_X6_75 (by decide) (by decide) (by decide) rfl rfl rfl (Nat.le_of_ble_eq_true rfl) dX6_isWord_37 (fun v18 M9 rv18 hI9 pv18 => ?_)
          obtain ⟨ev18, rfl⟩ := pv18
          obtain rfl : v18 = 5 := ev18.trans (show ((sbyt.getD 25 []).length : Int) = 5 from by decide)
          clear hI9
          refine z_icmp_ge (tgt := 70) F dX6_isWord_40 (by decide +kernel) (by omega) (by omega) (fun c19 => ?_) (fun c19 => ?_)
          · refine z_iconst F dX6_isWord_70 ?_
            exact hret _ _ 71 _ ⟨by omega, by omega⟩ ⟨hI, hW⟩ ⟨⟨by omega, by omega⟩, rfl, (by omega), (iwC_e i35_0 (fun q => by rw [wl_evenb, tkC_lt (c := 1) (by decide) (by decide)]; omega) (by omega) (by omega))⟩ dX6_isWord_71
          · refine z_aload_n F dX6_isWord_43 rfl (q := 0) rfl ?_
            refine rf_X6_22 F gs_18 rfl dX6_isWord_44 ?_
            refine z_aload_n F dX6_isWord_47 rfl (q := 0) rfl ?_
            refine gf_X6_57 F hI gs_18 rfl bd_18_6 dX6_isWord_48 (fun v20 ev20 av20 bv20 => ?_)
            have zv20 : u5 = v20 := eu5.trans ev20.symm
            subst zv20
            refine z_iload_n F dX6_isWord_51 rfl (q := 2) rfl ?_
            refine z_iadd F dX6_isWord_52 ?_
            have k21 : 0 ≤ (u5 + y17) ∧ (u5 + y17) ≤ 899 := by omega
            refine z_bald F hI gs_1 (by omega) (by omega) (by decide) bd_1 dX6_isWord_53 (fun v22 (ev22 : v22 = M 1 _) av22 bv22 => ?_)
            refine z_aload_n F dX6_isWord_54 rfl (q := 1) rfl ?_
            refine z_iload_n F dX6_isWord_55 rfl (q := 2) rfl ?_
            refine zvs_i (i := 25) (rest := [ii v22]) F (kS_chr l M ⟨hI, hW⟩ 25 (by decide) y17 (by omega) (show y17 < ((sbyt.getD 25 []).length : Int) from by rw [show ((sbyt.getD 25 []).length : Int) = 5 from by decide]; omega)) cs_X6_78 (by decide) (by decide) (by decide) rfl rfl rfl (Nat.le_of_ble_eq_true rfl) dX6_isWord_56 (fun v23 M9 rv23 hI9 pv23 => ?_)
            obtain ⟨⟨av23, bv23, ev23⟩, rfl⟩ := pv23
            clear hI9
            refine z_icmp_eq (tgt := 64) F dX6_isWord_59 (by decide +kernel) (by omega) (by omega) (fun c24 => ?_) (fun c24 => ?_)
            · refine z_iincN F dX6_isWord_64 (q := 2) rfl (by decide) (fun v25 ev25 => ?_)
              refine z_eq (ls' := [(2, ii v25), (0, .ref (ad 18)), (1, .ref (ad 1025))]) rfl rfl rfl ?_
              refine z_goto (tgt := 35) F dX6_isWord_67 (by decide +kernel) ?_
              refine z_loc [1, 2, 0] (ls' := [(0, .ref (ad 18)), (1, .ref (ad 1025)), (2, ii v25)]) rfl ?_
              exact ih35 v25 (by omega) (by omega) (by rw [show v25 = y17 + 1 from by omega]; exact iwC_s (z' := 1) (c1 := v22 % 256) i35_0 rfl (by omega) (by rw [wl_evenb]; omega) (by rw [wl_evenb]; omega) (show v22 % 256 = bC M ((M 18 6).toNat + (y17).toNat) from by show _ = M 1 _ % 256; rw [show (M 18 6).toNat + (y17).toNat = ((u5 + y17)).toNat from by omega, ← ev22]) (ev23.trans (sw_25 (y17).toNat (by omega)).1) (by have g9 := (sw_25 (y17).toNat (by omega)).2; omega)) (by omega)
            · refine z_iconst F dX6_isWord_62 ?_
              exact hret _ _ 63 _ ⟨by omega, by omega⟩ ⟨hI, hW⟩ ⟨⟨by omega, by omega⟩, rfl, (by omega), (iwC_e (iwC_s (z' := 0) (c1 := v22 % 256) i35_0 rfl (by omega) (by rw [wl_evenb]; omega) (by rw [wl_evenb]; omega) (show v22 % 256 = bC M ((M 18 6).toNat + (y17).toNat) from by show _ = M 1 _ % 256; rw [show (M 18 6).toNat + (y17).toNat = ((u5 + y17)).toNat from by omega, ← ev22]) (ev23.trans (sw_25 (y17).toNat (by omega)).1) (by have g9 := (sw_25 (y17).toNat (by omega)).2; omega)) (fun q => by exfalso; omega) (by omega) (by omega))⟩ dX6_isWord_63
      · refine z_iconst F dX6_isWord_31 ?_
        exact hret _ _ 32 _ ⟨by omega, by omega⟩ ⟨hI, hW⟩ ⟨⟨by omega, by omega⟩, rfl, (by omega), (iwC_e (k := 0) (iwC_n (by rw [wl_evenb, tkC_lt (c := 1) (by decide) (by decide)]; omega)) (fun q => by exfalso; omega) (by omega) (by omega))⟩ dX6_isWord_32
set_option maxHeartbeats 4000000 in
set_option maxRecDepth 4000 in
theorem kp_X6_isWord_18_1026 (l : Launch) (M : Mem) (hJ : Iw M) (hp0 : M 18 6 ≤ M 18 5 ∧ M 18 5 ≤ M 18 4 ∧ M 18 7 ≤ 4 * (M 18 5 - M 18 6)) : CI l yX6_isWord cX6_isWord 3 (some .boolean) 5 (fun ad => [.ref (ad 18), .ref (ad 1026)]) M (fun z M' => (0 ≤ z ∧ z ≤ 1) ∧ M = M' ∧ (M 18 6 + z ≤ M 18 5 ∧ (z = 1 → M 18 1 = 0)) ∧ (WZ z (isW w_alike (absC M)))) := by
  obtain ⟨hI, hW⟩ := hJ
  refine en_z (by decide +kernel) (fun ad => by exact Nat.le_of_ble_eq_true rfl) (fun D cy ad A p e s m args below meth c Q F hret => ?_)
  refine z_eq (ls' := [(0, .ref (ad 18)), (1, .ref (ad 1026))]) rfl rfl rfl ?_
  obtain ⟨u1, eu1⟩ : ∃ v : Int, v = M 18 1 := ⟨_, rfl⟩
  have ku1 : (-2147483648) ≤ u1 ∧ u1 ≤ 2147483647 := by have := hI.at (show Bd 18 1 = (-2147483648, 2147483647) from rfl); omega
  obtain ⟨u2, eu2⟩ : ∃ v : Int, v = M 18 2 := ⟨_, rfl⟩
  have ku2 : (-2147483648) ≤ u2 ∧ u2 ≤ 2147483647 := by have := hI.at (show Bd 18 2 = (-2147483648, 2147483647) from rfl); omega
  obtain ⟨u3, eu3⟩ : ∃ v : Int, v = M 18 4 := ⟨_, rfl⟩
  have ku3 : 0 ≤ u3 ∧ u3 ≤ 900 := by have := hI.at (show Bd 18 4 = (0, 900) from rfl); omega
  obtain ⟨u4, eu4⟩ : ∃ v : Int, v = M 18 5 := ⟨_, rfl⟩
  have ku4 : 0 ≤ u4 ∧ u4 ≤ 900 := by have := hI.at (show Bd 18 5 = (0, 900) from rfl); omega
  obtain ⟨u5, eu5⟩ : ∃ v : Int, v = M 18 6 := ⟨_, rfl⟩
  have ku5 : 0 ≤ u5 ∧ u5 ≤ 900 := by have := hI.at (show Bd 18 6 = (0, 900) from rfl); omega
  obtain ⟨u6, eu6⟩ : ∃ v : Int, v = M 18 7 := ⟨_, rfl⟩
  have ku6 : 0 ≤ u6 ∧ u6 ≤ 4 := by have := hI.at (show Bd 18 7 = (0, 4) from rfl); omega
  obtain ⟨u7, eu7⟩ : ∃ v : Int, v = M 18 8 := ⟨_, rfl⟩
  have ku7 : (-2147483648) ≤ u7 ∧ u7 ≤ 2147483647 := by have := hI.at (show Bd 18 8 = (-2147483648, 2147483647) from rfl); omega
  refine z_aload_n F dX6_isWord_0 rfl (q := 0) rfl ?_
  refine gf_X6_36 F hI gs_18 rfl bd_18_1 dX6_isWord_1 (fun v8 ev8 av8 bv8 => ?_)
  have zv8 : u1 = v8 := eu1.trans ev8.symm
  subst zv8
  refine z_if_ne (tgt := 31) F dX6_isWord_4 (by decide +kernel) (by omega) (fun c9 => ?_) (fun c9 => ?_)
  · refine z_iconst F dX6_isWord_31 ?_
    exact hret _ _ 32 _ ⟨by omega, by omega⟩ ⟨hI, hW⟩ ⟨⟨by omega, by omega⟩, rfl, (by omega), (iwC_e (k := 0) (iwC_n (by rw [wl_alike, tkC_lt (c := 1) (by decide) (by decide)]; omega)) (fun q => by exfalso; omega) (by omega) (by omega))⟩ dX6_isWord_32
  · refine z_aload_n F dX6_isWord_7 rfl (q := 0) rfl ?_
    refine gf_X6_48 F hI gs_18 rfl bd_18_7 dX6_isWord_8 (fun v10 ev10 av10 bv10 => ?_)
    have zv10 : u6 = v10 := eu6.trans ev10.symm
    subst zv10
    refine z_iconst F dX6_isWord_11 ?_
    refine z_icmp_ne (tgt := 31) F dX6_isWord_12 (by decide +kernel) (by omega) (by omega) (fun c11 => ?_) (fun c11 => ?_)
    · refine z_iconst F dX6_isWord_31 ?_
      exact hret _ _ 32 _ ⟨by omega, by omega⟩ ⟨hI, hW⟩ ⟨⟨by omega, by omega⟩, rfl, (by omega), (iwC_e (k := 0) (iwC_n (by rw [wl_alike, tkC_lt (c := 1) (by decide) (by decide)]; omega)) (fun q => by exfalso; omega) (by omega) (by omega))⟩ dX6_isWord_32
    · refine z_aload_n F dX6_isWord_15 rfl (q := 0) rfl ?_
      refine gf_X6_33 F hI gs_18 rfl bd_18_5 dX6_isWord_16 (fun v12 ev12 av12 bv12 => ?_)
      have zv12 : u4 = v12 := eu4.trans ev12.symm
      subst zv12
      refine z_aload_n F dX6_isWord_19 rfl (q := 0) rfl ?_
      refine gf_X6_57 F hI gs_18 rfl bd_18_6 dX6_isWord_20 (fun v13 ev13 av13 bv13 => ?_)
      have zv13 : u5 = v13 := eu5.trans ev13.symm
      subst zv13
      refine z_isub F dX6_isWord_23 ?_
      refine z_aload_n F dX6_isWord_24 rfl (q := 1) rfl ?_
      refine zvs_i (i := 26) (rest := [ii (u4 - u5)]) F (kS_len l M ⟨hI, hW⟩ 26 (by decide)) cs_X6_75 (by decide) (by decide) (by decide) rfl rfl rfl (Nat.le_of_ble_eq_true rfl) dX6_isWord_25 (fun v14 M9 rv14 hI9 pv14 => ?_)
      obtain ⟨ev14, rfl⟩ := pv14
      obtain rfl : v14 = 5 := ev14.trans (show ((sbyt.getD 26 []).length : Int) = 5 from by decide)
      clear hI9
      refine z_icmp_eq (tgt := 33) F dX6_isWord_28 (by decide +kernel) (by omega) (by omega) (fun c15 => ?_) (fun c15 => ?_)
      · refine z_iconst F dX6_isWord_33 ?_
        refine z_istore_n F dX6_isWord_34 rfl (by decide) (ls' := [(2, ii 0), (0, .ref (ad 18)), (1, .ref (ad 1026))]) rfl ?_
        refine z_loc [1, 2, 0] (ls' := [(0, .ref (ad 18)), (1, .ref (ad 1026)), (2, ii 0)]) rfl ?_
        suffices key35 : ∀ (n : Nat) (y17 : Int), 0 ≤ y17 → y17 ≤ 5 → (Iw_C M w_alike 1 y17) → 5 - y17 < (n : Int) → Z D cy ad p l e (RMh 5) s m args below meth c A 3 0 0 Q 35 [(0, .ref (ad 18)), (1, .ref (ad 1026)), (2, ii y17)] [] M from key35 6 0 (by omega) (by omega) iwC_0 (by omega)
        intro n35
        induction n35 with
        | zero => intro y17 ay17 by17 i35_0 hn35; exfalso; omega
        | succ n35 ih35 =>
          intro y17 ay17 by17 i35_0 hn35
          refine z_iload_n F dX6_isWord_35 rfl (q := 2) rfl ?_
          refine z_aload_n F dX6_isWord_36 rfl (q := 1) rfl ?_
          refine zvs_i (i := 26) (rest := [ii y17]) F (kS_len l M ⟨hI, hW⟩ 26 (by decide)) cs_X6_75 (by decide) (by decide) (by decide) rfl rfl rfl (Nat.le_of_ble_eq_true rfl) dX6_isWord_37 (fun v18 M9 rv18 hI9 pv18 => ?_)
          obtain ⟨ev18, rfl⟩ := pv18
          obtain rfl : v18 = 5 := ev18.trans (show ((sbyt.getD 26 []).length : Int) = 5 from by decide)
          clear hI9
          refine z_icmp_ge (tgt := 70) F dX6_isWord_40 (by decide +kernel) (by omega) (by omega) (fun c19 => ?_) (fun c19 => ?_)
          · refine z_iconst F dX6_isWord_70 ?_
            exact hret _ _ 71 _ ⟨by omega, by omega⟩ ⟨hI, hW⟩ ⟨⟨by omega, by omega⟩, rfl, (by omega), (iwC_e i35_0 (fun q => by rw [wl_alike, tkC_lt (c := 1) (by decide) (by decide)]; omega) (by omega) (by omega))⟩ dX6_isWord_71
          · refine z_aload_n F dX6_isWord_43 rfl (q := 0) rfl ?_
            refine rf_X6_22 F gs_18 rfl dX6_isWord_44 ?_
            refine z_aload_n F dX6_isWord_47 rfl (q := 0) rfl ?_
            refine gf_X6_57 F hI gs_18 rfl bd_18_6 dX6_isWord_48 (fun v20 ev20 av20 bv20 => ?_)
            have zv20 : u5 = v20 := eu5.trans ev20.symm
            subst zv20
            refine z_iload_n F dX6_isWord_51 rfl (q := 2) rfl ?_
            refine z_iadd F dX6_isWord_52 ?_
            have k21 : 0 ≤ (u5 + y17) ∧ (u5 + y17) ≤ 899 := by omega
            refine z_bald F hI gs_1 (by omega) (by omega) (by decide) bd_1 dX6_isWord_53 (fun v22 (ev22 : v22 = M 1 _) av22 bv22 => ?_)
            refine z_aload_n F dX6_isWord_54 rfl (q := 1) rfl ?_
            refine z_iload_n F dX6_isWord_55 rfl (q := 2) rfl ?_
            refine zvs_i (i := 26) (rest := [ii v22]) F (kS_chr l M ⟨hI, hW⟩ 26 (by decide) y17 (by omega) (show y17 < ((sbyt.getD 26 []).length : Int) from by rw [show ((sbyt.getD 26 []).length : Int) = 5 from by decide]; omega)) cs_X6_78 (by decide) (by decide) (by decide) rfl rfl rfl (Nat.le_of_ble_eq_true rfl) dX6_isWord_56 (fun v23 M9 rv23 hI9 pv23 => ?_)
            obtain ⟨⟨av23, bv23, ev23⟩, rfl⟩ := pv23
            clear hI9
            refine z_icmp_eq (tgt := 64) F dX6_isWord_59 (by decide +kernel) (by omega) (by omega) (fun c24 => ?_) (fun c24 => ?_)
            · refine z_iincN F dX6_isWord_64 (q := 2) rfl (by decide) (fun v25 ev25 => ?_)
              refine z_eq (ls' := [(2, ii v25), (0, .ref (ad 18)), (1, .ref (ad 1026))]) rfl rfl rfl ?_
              refine z_goto (tgt := 35) F dX6_isWord_67 (by decide +kernel) ?_
              refine z_loc [1, 2, 0] (ls' := [(0, .ref (ad 18)), (1, .ref (ad 1026)), (2, ii v25)]) rfl ?_
              exact ih35 v25 (by omega) (by omega) (by rw [show v25 = y17 + 1 from by omega]; exact iwC_s (z' := 1) (c1 := v22 % 256) i35_0 rfl (by omega) (by rw [wl_alike]; omega) (by rw [wl_alike]; omega) (show v22 % 256 = bC M ((M 18 6).toNat + (y17).toNat) from by show _ = M 1 _ % 256; rw [show (M 18 6).toNat + (y17).toNat = ((u5 + y17)).toNat from by omega, ← ev22]) (ev23.trans (sw_26 (y17).toNat (by omega)).1) (by have g9 := (sw_26 (y17).toNat (by omega)).2; omega)) (by omega)
            · refine z_iconst F dX6_isWord_62 ?_
              exact hret _ _ 63 _ ⟨by omega, by omega⟩ ⟨hI, hW⟩ ⟨⟨by omega, by omega⟩, rfl, (by omega), (iwC_e (iwC_s (z' := 0) (c1 := v22 % 256) i35_0 rfl (by omega) (by rw [wl_alike]; omega) (by rw [wl_alike]; omega) (show v22 % 256 = bC M ((M 18 6).toNat + (y17).toNat) from by show _ = M 1 _ % 256; rw [show (M 18 6).toNat + (y17).toNat = ((u5 + y17)).toNat from by omega, ← ev22]) (ev23.trans (sw_26 (y17).toNat (by omega)).1) (by have g9 := (sw_26 (y17).toNat (by omega)).2; omega)) (fun q => by exfalso; omega) (by omega) (by omega))⟩ dX6_isWord_63
      · refine z_iconst F dX6_isWord_31 ?_
        exact hret _ _ 32 _ ⟨by omega, by omega⟩ ⟨hI, hW⟩ ⟨⟨by omega, by omega⟩, rfl, (by omega), (iwC_e (k := 0) (iwC_n (by rw [wl_alike, tkC_lt (c := 1) (by decide) (by decide)]; omega)) (fun q => by exfalso; omega) (by omega) (by omega))⟩ dX6_isWord_32
set_option maxHeartbeats 4000000 in
set_option maxRecDepth 4000 in
theorem kp_X6_isWord_18_1004 (l : Launch) (M : Mem) (hJ : Iw M) (hp0 : M 18 6 ≤ M 18 5 ∧ M 18 5 ≤ M 18 4 ∧ M 18 7 ≤ 4 * (M 18 5 - M 18 6)) : CI l yX6_isWord cX6_isWord 3 (some .boolean) 5 (fun ad => [.ref (ad 18), .ref (ad 1004)]) M (fun z M' => (0 ≤ z ∧ z ≤ 1) ∧ M = M' ∧ (M 18 6 + z ≤ M 18 5 ∧ (z = 1 → M 18 1 = 0)) ∧ (WZ z (isW w_wall (absC M)))) := by
  obtain ⟨hI, hW⟩ := hJ
  refine en_z (by decide +kernel) (fun ad => by exact Nat.le_of_ble_eq_true rfl) (fun D cy ad A p e s m args below meth c Q F hret => ?_)
  refine z_eq (ls' := [(0, .ref (ad 18)), (1, .ref (ad 1004))]) rfl rfl rfl ?_
  obtain ⟨u1, eu1⟩ : ∃ v : Int, v = M 18 1 := ⟨_, rfl⟩
  have ku1 : (-2147483648) ≤ u1 ∧ u1 ≤ 2147483647 := by have := hI.at (show Bd 18 1 = (-2147483648, 2147483647) from rfl); omega
  obtain ⟨u2, eu2⟩ : ∃ v : Int, v = M 18 2 := ⟨_, rfl⟩
  have ku2 : (-2147483648) ≤ u2 ∧ u2 ≤ 2147483647 := by have := hI.at (show Bd 18 2 = (-2147483648, 2147483647) from rfl); omega
  obtain ⟨u3, eu3⟩ : ∃ v : Int, v = M 18 4 := ⟨_, rfl⟩
  have ku3 : 0 ≤ u3 ∧ u3 ≤ 900 := by have := hI.at (show Bd 18 4 = (0, 900) from rfl); omega
  obtain ⟨u4, eu4⟩ : ∃ v : Int, v = M 18 5 := ⟨_, rfl⟩
  have ku4 : 0 ≤ u4 ∧ u4 ≤ 900 := by have := hI.at (show Bd 18 5 = (0, 900) from rfl); omega
  obtain ⟨u5, eu5⟩ : ∃ v : Int, v = M 18 6 := ⟨_, rfl⟩
  have ku5 : 0 ≤ u5 ∧ u5 ≤ 900 := by have := hI.at (show Bd 18 6 = (0, 900) from rfl); omega
  obtain ⟨u6, eu6⟩ : ∃ v : Int, v = M 18 7 := ⟨_, rfl⟩
  have ku6 : 0 ≤ u6 ∧ u6 ≤ 4 := by have := hI.at (show Bd 18 7 = (0, 4) from rfl); omega
  obtain ⟨u7, eu7⟩ : ∃ v : Int, v = M 18 8 := ⟨_, rfl⟩
  have ku7 : (-2147483648) ≤ u7 ∧ u7 ≤ 2147483647 := by have := hI.at (show Bd 18 8 = (-2147483648, 2147483647) from rfl); omega
  refine z_aload_n F dX6_isWord_0 rfl (q := 0) rfl ?_
  refine gf_X6_36 F hI gs_18 rfl bd_18_1 dX6_isWord_1 (fun v8 ev8 av8 bv8 => ?_)
  have zv8 : u1 = v8 := eu1.trans ev8.symm
  subst zv8
  refine z_if_ne (tgt := 31) F dX6_isWord_4 (by decide +kernel) (by omega) (fun c9 => ?_) (fun c9 => ?_)
  · refine z_iconst F dX6_isWord_31 ?_
    exact hret _ _ 32 _ ⟨by omega, by omega⟩ ⟨hI, hW⟩ ⟨⟨by omega, by omega⟩, rfl, (by omega), (iwC_e (k := 0) (iwC_n (by rw [wl_wall, tkC_lt (c := 1) (by decide) (by decide)]; omega)) (fun q => by exfalso; omega) (by omega) (by omega))⟩ dX6_isWord_32
  · refine z_aload_n F dX6_isWord_7 rfl (q := 0) rfl ?_
    refine gf_X6_48 F hI gs_18 rfl bd_18_7 dX6_isWord_8 (fun v10 ev10 av10 bv10 => ?_)
    have zv10 : u6 = v10 := eu6.trans ev10.symm
    subst zv10
    refine z_iconst F dX6_isWord_11 ?_
    refine z_icmp_ne (tgt := 31) F dX6_isWord_12 (by decide +kernel) (by omega) (by omega) (fun c11 => ?_) (fun c11 => ?_)
    · refine z_iconst F dX6_isWord_31 ?_
      exact hret _ _ 32 _ ⟨by omega, by omega⟩ ⟨hI, hW⟩ ⟨⟨by omega, by omega⟩, rfl, (by omega), (iwC_e (k := 0) (iwC_n (by rw [wl_wall, tkC_lt (c := 1) (by decide) (by decide)]; omega)) (fun q => by exfalso; omega) (by omega) (by omega))⟩ dX6_isWord_32
    · refine z_aload_n F dX6_isWord_15 rfl (q := 0) rfl ?_
      refine gf_X6_33 F hI gs_18 rfl bd_18_5 dX6_isWord_16 (fun v12 ev12 av12 bv12 => ?_)
      have zv12 : u4 = v12 := eu4.trans ev12.symm
      subst zv12
      refine z_aload_n F dX6_isWord_19 rfl (q := 0) rfl ?_
      refine gf_X6_57 F hI gs_18 rfl bd_18_6 dX6_isWord_20 (fun v13 ev13 av13 bv13 => ?_)
      have zv13 : u5 = v13 := eu5.trans ev13.symm
      subst zv13
      refine z_isub F dX6_isWord_23 ?_
      refine z_aload_n F dX6_isWord_24 rfl (q := 1) rfl ?_
      refine zvs_i (i := 4) (rest := [ii (u4 - u5)]) F (kS_len l M ⟨hI, hW⟩ 4 (by decide)) cs_X6_75 (by decide) (by decide) (by decide) rfl rfl rfl (Nat.le_of_ble_eq_true rfl) dX6_isWord_25 (fun v14 M9 rv14 hI9 pv14 => ?_)
      obtain ⟨ev14, rfl⟩ := pv14
      obtain rfl : v14 = 4 := ev14.trans (show ((sbyt.getD 4 []).length : Int) = 4 from by decide)
      clear hI9
      refine z_icmp_eq (tgt := 33) F dX6_isWord_28 (by decide +kernel) (by omega) (by omega) (fun c15 => ?_) (fun c15 => ?_)
      · refine z_iconst F dX6_isWord_33 ?_
        refine z_istore_n F dX6_isWord_34 rfl (by decide) (ls' := [(2, ii 0), (0, .ref (ad 18)), (1, .ref (ad 1004))]) rfl ?_
        refine z_loc [1, 2, 0] (ls' := [(0, .ref (ad 18)), (1, .ref (ad 1004)), (2, ii 0)]) rfl ?_
        suffices key35 : ∀ (n : Nat) (y17 : Int), 0 ≤ y17 → y17 ≤ 4 → (Iw_C M w_wall 1 y17) → 4 - y17 < (n : Int) → Z D cy ad p l e (RMh 5) s m args below meth c A 3 0 0 Q 35 [(0, .ref (ad 18)), (1, .ref (ad 1004)), (2, ii y17)] [] M from key35 5 0 (by omega) (by omega) iwC_0 (by omega)
        intro n35
        induction n35 with
        | zero => intro y17 ay17 by17 i35_0 hn35; exfalso; omega
        | succ n35 ih35 =>
          intro y17 ay17 by17 i35_0 hn35
          refine z_iload_n F dX6_isWord_35 rfl (q := 2) rfl ?_
          refine z_aload_n F dX6_isWord_36 rfl (q := 1) rfl ?_
          refine zvs_i (i := 4) (rest := [ii y17]) F (kS_len l M ⟨hI, hW⟩ 4 (by decide)) cs_X6_75 (by decide) (by decide) (by decide) rfl rfl rfl (Nat.le_of_ble_eq_true rfl) dX6_isWord_37 (fun v18 M9 rv18 hI9 pv18 => ?_)
          obtain ⟨ev18, rfl⟩ := pv18
          obtain rfl : v18 = 4 := ev18.trans (show ((sbyt.getD 4 []).length : Int) = 4 from by decide)
          clear hI9
          refine z_icmp_ge (tgt := 70) F dX6_isWord_40 (by decide +kernel) (by omega) (by omega) (fun c19 => ?_) (fun c19 => ?_)
          · refine z_iconst F dX6_isWord_70 ?_
            exact hret _ _ 71 _ ⟨by omega, by omega⟩ ⟨hI, hW⟩ ⟨⟨by omega, by omega⟩, rfl, (by omega), (iwC_e i35_0 (fun q => by rw [wl_wall, tkC_lt (c := 1) (by decide) (by decide)]; omega) (by omega) (by omega))⟩ dX6_isWord_71
          · refine z_aload_n F dX6_isWord_43 rfl (q := 0) rfl ?_
            refine rf_X6_22 F gs_18 rfl dX6_isWord_44 ?_
            refine z_aload_n F dX6_isWord_47 rfl (q := 0) rfl ?_
            refine gf_X6_57 F hI gs_18 rfl bd_18_6 dX6_isWord_48 (fun v20 ev20 av20 bv20 => ?_)
            have zv20 : u5 = v20 := eu5.trans ev20.symm
            subst zv20
            refine z_iload_n F dX6_isWord_51 rfl (q := 2) rfl ?_
            refine z_iadd F dX6_isWord_52 ?_
            have k21 : 0 ≤ (u5 + y17) ∧ (u5 + y17) ≤ 899 := by omega
            refine z_bald F hI gs_1 (by omega) (by omega) (by decide) bd_1 dX6_isWord_53 (fun v22 (ev22 : v22 = M 1 _) av22 bv22 => ?_)
            refine z_aload_n F dX6_isWord_54 rfl (q := 1) rfl ?_
            refine z_iload_n F dX6_isWord_55 rfl (q := 2) rfl ?_
            refine zvs_i (i := 4) (rest := [ii v22]) F (kS_chr l M ⟨hI, hW⟩ 4 (by decide) y17 (by omega) (show y17 < ((sbyt.getD 4 []).length : Int) from by rw [show ((sbyt.getD 4 []).length : Int) = 4 from by decide]; omega)) cs_X6_78 (by decide) (by decide) (by decide) rfl rfl rfl (Nat.le_of_ble_eq_true rfl) dX6_isWord_56 (fun v23 M9 rv23 hI9 pv23 => ?_)
            obtain ⟨⟨av23, bv23, ev23⟩, rfl⟩ := pv23
            clear hI9
            refine z_icmp_eq (tgt := 64) F dX6_isWord_59 (by decide +kernel) (by omega) (by omega) (fun c24 => ?_) (fun c24 => ?_)
            · refine z_iincN F dX6_isWord_64 (q := 2) rfl (by decide) (fun v25 ev25 => ?_)
              refine z_eq (ls' := [(2, ii v25), (0, .ref (ad 18)), (1, .ref (ad 1004))]) rfl rfl rfl ?_
              refine z_goto (tgt := 35) F dX6_isWord_67 (by decide +kernel) ?_
              refine z_loc [1, 2, 0] (ls' := [(0, .ref (ad 18)), (1, .ref (ad 1004)), (2, ii v25)]) rfl ?_
              exact ih35 v25 (by omega) (by omega) (by rw [show v25 = y17 + 1 from by omega]; exact iwC_s (z' := 1) (c1 := v22 % 256) i35_0 rfl (by omega) (by rw [wl_wall]; omega) (by rw [wl_wall]; omega) (show v22 % 256 = bC M ((M 18 6).toNat + (y17).toNat) from by show _ = M 1 _ % 256; rw [show (M 18 6).toNat + (y17).toNat = ((u5 + y17)).toNat from by omega, ← ev22]) (ev23.trans (sw_4 (y17).toNat (by omega)).1) (by have g9 := (sw_4 (y17).toNat (by omega)).2; omega)) (by omega)
            · refine z_iconst F dX6_isWord_62 ?_
              exact hret _ _ 63 _ ⟨by omega, by omega⟩ ⟨hI, hW⟩ ⟨⟨by omega, by omega⟩, rfl, (by omega), (iwC_e (iwC_s (z' := 0) (c1 := v22 % 256) i35_0 rfl (by omega) (by rw [wl_wall]; omega) (by rw [wl_wall]; omega) (show v22 % 256 = bC M ((M 18 6).toNat + (y17).toNat) from by show _ = M 1 _ % 256; rw [show (M 18 6).toNat + (y17).toNat = ((u5 + y17)).toNat from by omega, ← ev22]) (ev23.trans (sw_4 (y17).toNat (by omega)).1) (by have g9 := (sw_4 (y17).toNat (by omega)).2; omega)) (fun q => by exfalso; omega) (by omega) (by omega))⟩ dX6_isWord_63
      · refine z_iconst F dX6_isWord_31 ?_
        exact hret _ _ 32 _ ⟨by omega, by omega⟩ ⟨hI, hW⟩ ⟨⟨by omega, by omega⟩, rfl, (by omega), (iwC_e (k := 0) (iwC_n (by rw [wl_wall, tkC_lt (c := 1) (by decide) (by decide)]; omega)) (fun q => by exfalso; omega) (by omega) (by omega))⟩ dX6_isWord_32
set_option maxHeartbeats 4000000 in
set_option maxRecDepth 4000 in
theorem kp_X6_nameHere_18 (l : Launch) (M : Mem) (hJ : Iw M) (hp0 : M 18 6 ≤ M 18 5 ∧ M 18 5 ≤ M 18 4 ∧ M 18 7 ≤ 4 * (M 18 5 - M 18 6)) : CI l yX6_nameHere cX6_nameHere 1 (some .int) 6 (fun ad => [.ref (ad 18)]) M (fun z M' => ((-8) ≤ z ∧ z ≤ 0) ∧ M = M' ∧ (¬ z = 0 → M 18 1 = 0) ∧ (Or2 (¬ z = 0 ∧ lawW (absC M) = true) (z = 0 ∧ lawW (absC M) = false))) := by
  obtain ⟨hI, hW⟩ := hJ
  refine en_i (by decide +kernel) (fun ad => by exact Nat.le_of_ble_eq_true rfl) (fun D cy ad A p e s m args below meth c Q F hret => ?_)
  refine z_eq (ls' := [(0, .ref (ad 18))]) rfl rfl rfl ?_
  refine z_aload_n F dX6_nameHere_0 rfl (q := 0) rfl ?_
  refine z_ldcSW (j := 20) F dX6_nameHere_1 rfl rfl rfl ?_
  refine z_eq (st' := [.ref (ad 1020), .ref (ad 18)]) rfl rfl rfl ?_
  refine zv_i (rest := []) F (kp_X6_isWord_18_1020 l M ⟨hI, hW⟩ (by omega)) cs_X6_86 (T := TX6) (N := 9) (ci := 6) rfl gs_18 (by decide) (by decide) rfl rfl rfl (Nat.le_of_ble_eq_true rfl) dX6_nameHere_4 (fun v1 M2 rv1 hI p3 => ?_)
  obtain ⟨hI, hW⟩ := hI
  obtain ⟨⟨av1, bv1⟩, rfl, xp3, yp3⟩ := p3
  refine z_if_eq (tgt := 12) F dX6_nameHere_7 (by decide +kernel) (by omega) (fun c4 => ?_) (fun c4 => ?_)
  · refine z_aload_n F dX6_nameHere_12 rfl (q := 0) rfl ?_
    refine z_ldcSW (j := 21) F dX6_nameHere_13 rfl rfl rfl ?_
    refine z_eq (st' := [.ref (ad 1021), .ref (ad 18)]) rfl rfl rfl ?_
    refine zv_i (rest := []) F (kp_X6_isWord_18_1021 l M ⟨hI, hW⟩ (by omega)) cs_X6_86 (T := TX6) (N := 9) (ci := 6) rfl gs_18 (by decide) (by decide) rfl rfl rfl (Nat.le_of_ble_eq_true rfl) dX6_nameHere_16 (fun v5 M6 rv5 hI p7 => ?_)
    obtain ⟨hI, hW⟩ := hI
    obtain ⟨⟨av5, bv5⟩, rfl, xp7, yp7⟩ := p7
    refine z_if_eq (tgt := 25) F dX6_nameHere_19 (by decide +kernel) (by omega) (fun c8 => ?_) (fun c8 => ?_)
    · refine z_aload_n F dX6_nameHere_25 rfl (q := 0) rfl ?_
      refine z_ldcSW (j := 22) F dX6_nameHere_26 rfl rfl rfl ?_
      refine z_eq (st' := [.ref (ad 1022), .ref (ad 18)]) rfl rfl rfl ?_
      refine zv_i (rest := []) F (kp_X6_isWord_18_1022 l M ⟨hI, hW⟩ (by omega)) cs_X6_86 (T := TX6) (N := 9) (ci := 6) rfl gs_18 (by decide) (by decide) rfl rfl rfl (Nat.le_of_ble_eq_true rfl) dX6_nameHere_29 (fun v9 M10 rv9 hI p11 => ?_)
      obtain ⟨hI, hW⟩ := hI
      obtain ⟨⟨av9, bv9⟩, rfl, xp11, yp11⟩ := p11
      refine z_if_eq (tgt := 38) F dX6_nameHere_32 (by decide +kernel) (by omega) (fun c12 => ?_) (fun c12 => ?_)
      · refine z_aload_n F dX6_nameHere_38 rfl (q := 0) rfl ?_
        refine z_ldcSW (j := 23) F dX6_nameHere_39 rfl rfl rfl ?_
        refine z_eq (st' := [.ref (ad 1023), .ref (ad 18)]) rfl rfl rfl ?_
        refine zv_i (rest := []) F (kp_X6_isWord_18_1023 l M ⟨hI, hW⟩ (by omega)) cs_X6_86 (T := TX6) (N := 9) (ci := 6) rfl gs_18 (by decide) (by decide) rfl rfl rfl (Nat.le_of_ble_eq_true rfl) dX6_nameHere_42 (fun v13 M14 rv13 hI p15 => ?_)
        obtain ⟨hI, hW⟩ := hI
        obtain ⟨⟨av13, bv13⟩, rfl, xp15, yp15⟩ := p15
        refine z_if_eq (tgt := 51) F dX6_nameHere_45 (by decide +kernel) (by omega) (fun c16 => ?_) (fun c16 => ?_)
        · refine z_aload_n F dX6_nameHere_51 rfl (q := 0) rfl ?_
          refine z_ldcSW (j := 24) F dX6_nameHere_52 rfl rfl rfl ?_
          refine z_eq (st' := [.ref (ad 1024), .ref (ad 18)]) rfl rfl rfl ?_
          refine zv_i (rest := []) F (kp_X6_isWord_18_1024 l M ⟨hI, hW⟩ (by omega)) cs_X6_86 (T := TX6) (N := 9) (ci := 6) rfl gs_18 (by decide) (by decide) rfl rfl rfl (Nat.le_of_ble_eq_true rfl) dX6_nameHere_55 (fun v17 M18 rv17 hI p19 => ?_)
          obtain ⟨hI, hW⟩ := hI
          obtain ⟨⟨av17, bv17⟩, rfl, xp19, yp19⟩ := p19
          refine z_if_eq (tgt := 64) F dX6_nameHere_58 (by decide +kernel) (by omega) (fun c20 => ?_) (fun c20 => ?_)
          · refine z_aload_n F dX6_nameHere_64 rfl (q := 0) rfl ?_
            refine z_ldcSW (j := 25) F dX6_nameHere_65 rfl rfl rfl ?_
            refine z_eq (st' := [.ref (ad 1025), .ref (ad 18)]) rfl rfl rfl ?_
            refine zv_i (rest := []) F (kp_X6_isWord_18_1025 l M ⟨hI, hW⟩ (by omega)) cs_X6_86 (T := TX6) (N := 9) (ci := 6) rfl gs_18 (by decide) (by decide) rfl rfl rfl (Nat.le_of_ble_eq_true rfl) dX6_nameHere_68 (fun v21 M22 rv21 hI p23 => ?_)
            obtain ⟨hI, hW⟩ := hI
            obtain ⟨⟨av21, bv21⟩, rfl, xp23, yp23⟩ := p23
            refine z_if_eq (tgt := 77) F dX6_nameHere_71 (by decide +kernel) (by omega) (fun c24 => ?_) (fun c24 => ?_)
            · refine z_aload_n F dX6_nameHere_77 rfl (q := 0) rfl ?_
              refine z_ldcSW (j := 26) F dX6_nameHere_78 rfl rfl rfl ?_
              refine z_eq (st' := [.ref (ad 1026), .ref (ad 18)]) rfl rfl rfl ?_
              refine zv_i (rest := []) F (kp_X6_isWord_18_1026 l M ⟨hI, hW⟩ (by omega)) cs_X6_86 (T := TX6) (N := 9) (ci := 6) rfl gs_18 (by decide) (by decide) rfl rfl rfl (Nat.le_of_ble_eq_true rfl) dX6_nameHere_81 (fun v25 M26 rv25 hI p27 => ?_)
              obtain ⟨hI, hW⟩ := hI
              obtain ⟨⟨av25, bv25⟩, rfl, xp27, yp27⟩ := p27
              refine z_if_eq (tgt := 90) F dX6_nameHere_84 (by decide +kernel) (by omega) (fun c28 => ?_) (fun c28 => ?_)
              · refine z_aload_n F dX6_nameHere_90 rfl (q := 0) rfl ?_
                refine z_ldcS (j := 4) F dX6_nameHere_91 rfl rfl rfl ?_
                refine z_eq (st' := [.ref (ad 1004), .ref (ad 18)]) rfl rfl rfl ?_
                refine zv_i (rest := []) F (kp_X6_isWord_18_1004 l M ⟨hI, hW⟩ (by omega)) cs_X6_86 (T := TX6) (N := 9) (ci := 6) rfl gs_18 (by decide) (by decide) rfl rfl rfl (Nat.le_of_ble_eq_true rfl) dX6_nameHere_93 (fun v29 M30 rv29 hI p31 => ?_)
                obtain ⟨hI, hW⟩ := hI
                obtain ⟨⟨av29, bv29⟩, rfl, xp31, yp31⟩ := p31
                refine z_if_eq (tgt := 102) F dX6_nameHere_96 (by decide +kernel) (by omega) (fun c32 => ?_) (fun c32 => ?_)
                · refine z_iconst F dX6_nameHere_102 ?_
                  have b33 := wz_f yp3 (by omega)
                  have b34 := wz_f yp7 (by omega)
                  have b35 := wz_f yp11 (by omega)
                  have b36 := wz_f yp15 (by omega)
                  have b37 := wz_f yp19 (by omega)
                  have b38 := wz_f yp23 (by omega)
                  have b39 := wz_f yp27 (by omega)
                  have b40 := wz_f yp31 (by omega)
                  exact hret _ _ 103 _ (by omega) ⟨hI, hW⟩ ⟨⟨by omega, by omega⟩, rfl, (by omega), (Or.inr ⟨by omega, (by unfold lawW; simp [b33, b34, b35, b36, b37, b38, b39, b40])⟩)⟩ dX6_nameHere_103
                · refine z_bipush F dX6_nameHere_99 (by decide +kernel) ?_
                  have b41 := wz_f yp3 (by omega)
                  have b42 := wz_f yp7 (by omega)
                  have b43 := wz_f yp11 (by omega)
                  have b44 := wz_f yp15 (by omega)
                  have b45 := wz_f yp19 (by omega)
                  have b46 := wz_f yp23 (by omega)
                  have b47 := wz_f yp27 (by omega)
                  have b48 := wz_t yp31 (by omega)
                  exact hret _ _ 101 _ (by omega) ⟨hI, hW⟩ ⟨⟨by omega, by omega⟩, rfl, (by omega), (Or.inl ⟨by omega, (by unfold lawW; simp [b41, b42, b43, b44, b45, b46, b47, b48])⟩)⟩ dX6_nameHere_101
              · refine z_bipush F dX6_nameHere_87 (by decide +kernel) ?_
                have b49 := wz_f yp3 (by omega)
                have b50 := wz_f yp7 (by omega)
                have b51 := wz_f yp11 (by omega)
                have b52 := wz_f yp15 (by omega)
                have b53 := wz_f yp19 (by omega)
                have b54 := wz_f yp23 (by omega)
                have b55 := wz_t yp27 (by omega)
                exact hret _ _ 89 _ (by omega) ⟨hI, hW⟩ ⟨⟨by omega, by omega⟩, rfl, (by omega), (Or.inl ⟨by omega, (by unfold lawW; simp [b49, b50, b51, b52, b53, b54, b55])⟩)⟩ dX6_nameHere_89
            · refine z_bipush F dX6_nameHere_74 (by decide +kernel) ?_
              have b56 := wz_f yp3 (by omega)
              have b57 := wz_f yp7 (by omega)
              have b58 := wz_f yp11 (by omega)
              have b59 := wz_f yp15 (by omega)
              have b60 := wz_f yp19 (by omega)
              have b61 := wz_t yp23 (by omega)
              exact hret _ _ 76 _ (by omega) ⟨hI, hW⟩ ⟨⟨by omega, by omega⟩, rfl, (by omega), (Or.inl ⟨by omega, (by unfold lawW; simp [b56, b57, b58, b59, b60, b61])⟩)⟩ dX6_nameHere_76
          · refine z_bipush F dX6_nameHere_61 (by decide +kernel) ?_
            have b62 := wz_f yp3 (by omega)
            have b63 := wz_f yp7 (by omega)
            have b64 := wz_f yp11 (by omega)
            have b65 := wz_f yp15 (by omega)
            have b66 := wz_t yp19 (by omega)
            exact hret _ _ 63 _ (by omega) ⟨hI, hW⟩ ⟨⟨by omega, by omega⟩, rfl, (by omega), (Or.inl ⟨by omega, (by unfold lawW; simp [b62, b63, b64, b65, b66])⟩)⟩ dX6_nameHere_63
        · refine z_bipush F dX6_nameHere_48 (by decide +kernel) ?_
          have b67 := wz_f yp3 (by omega)
          have b68 := wz_f yp7 (by omega)
          have b69 := wz_f yp11 (by omega)
          have b70 := wz_t yp15 (by omega)
          exact hret _ _ 50 _ (by omega) ⟨hI, hW⟩ ⟨⟨by omega, by omega⟩, rfl, (by omega), (Or.inl ⟨by omega, (by unfold lawW; simp [b67, b68, b69, b70])⟩)⟩ dX6_nameHere_50
      · refine z_bipush F dX6_nameHere_35 (by decide +kernel) ?_
        have b71 := wz_f yp3 (by omega)
        have b72 := wz_f yp7 (by omega)
        have b73 := wz_t yp11 (by omega)
        exact hret _ _ 37 _ (by omega) ⟨hI, hW⟩ ⟨⟨by omega, by omega⟩, rfl, (by omega), (Or.inl ⟨by omega, (by unfold lawW; simp [b71, b72, b73])⟩)⟩ dX6_nameHere_37
    · refine z_bipush F dX6_nameHere_22 (by decide +kernel) ?_
      have b74 := wz_f yp3 (by omega)
      have b75 := wz_t yp7 (by omega)
      exact hret _ _ 24 _ (by omega) ⟨hI, hW⟩ ⟨⟨by omega, by omega⟩, rfl, (by omega), (Or.inl ⟨by omega, (by unfold lawW; simp [b74, b75])⟩)⟩ dX6_nameHere_24
  · refine z_iconst F dX6_nameHere_10 ?_
    have b76 := wz_t yp3 (by omega)
    exact hret _ _ 11 _ (by omega) ⟨hI, hW⟩ ⟨⟨by omega, by omega⟩, rfl, (by omega), (Or.inl ⟨by omega, (by unfold lawW; simp [b76])⟩)⟩ dX6_nameHere_11
set_option maxHeartbeats 4000000 in
set_option maxRecDepth 4000 in
theorem kp_X6_readAtom_18 (l : Launch) (nr : Nat) (ih : RdX l nr) : ∀ (M : Mem) (hJ : Iw M) (x0 : Int) (hx0a : 0 ≤ x0) (hx0b : x0 ≤ 6) (hp0 : M 18 6 ≤ M 18 5 ∧ M 18 5 ≤ M 18 4 ∧ M 18 7 ≤ 4 * (M 18 5 - M 18 6)) (hmu : (6 - x0) * 8 + 1 < ((nr + 1 : Nat) : Int)), CV l yX6_readAtom cX6_readAtom 3 none (12 + (nr + 1)) (fun ad => [.ref (ad 18), ii x0]) M (fun M' => Fr [18, 31, 32] M M' ∧ (M' 18 4 = M 18 4 ∧ M' 18 6 ≤ M' 18 5 ∧ M' 18 5 ≤ M' 18 4 ∧ M' 18 7 ≤ 4 * (M' 18 5 - M' 18 6) ∧ M 18 6 ≤ M' 18 6) ∧ (RdE 5 x0 (absC M) (absC M'))) := by
  intro M hJ x0 hx0a hx0b hp0 hmu
  obtain ⟨hI, hW⟩ := hJ
  have hF : Fr [18, 31, 32] M M := Fr.rf
  refine en_v (by decide +kernel) (fun ad => by exact Nat.le_of_ble_eq_true rfl) (fun D cy ad A p e s m args below meth c Q F hret => ?_)
  refine z_eq (ls' := [(0, .ref (ad 18)), (1, ii x0)]) rfl rfl rfl ?_
  refine z_aload_n F dX6_readAtom_0 rfl (q := 0) rfl ?_
  refine zv_i (rest := []) F (kp_X6_nameHere_18 l M ⟨hI, hW⟩ (by omega)) cs_X6_268 (T := TX6) (N := 9) (ci := 6) rfl gs_18 (by omega) (by decide) rfl rfl rfl (Nat.le_of_ble_eq_true rfl) dX6_readAtom_1 (fun v1 M2 rv1 hI p3 => ?_)
  obtain ⟨hI, hW⟩ := hI
  obtain ⟨⟨av1, bv1⟩, rfl, xp3, yp3⟩ := p3
  refine z_istore_n F dX6_readAtom_4 rfl (by decide) (ls' := [(2, ii v1), (0, .ref (ad 18)), (1, ii x0)]) rfl ?_
  refine z_aload_n F dX6_readAtom_5 rfl (q := 1) rfl ?_
  refine z_bipush F dX6_readAtom_6 (by decide +kernel) ?_
  refine zv_i (rest := []) F (kp_X6_isSign_18 l M ⟨hI, hW⟩ 40 (by omega) (by omega) (by omega)) cs_X6_93 (T := TX6) (N := 9) (ci := 6) rfl gs_18 (by omega) (by decide) rfl rfl rfl (Nat.le_of_ble_eq_true rfl) dX6_readAtom_8 (fun v4 M5 rv4 hI p6 => ?_)
  obtain ⟨hI, hW⟩ := hI
  obtain ⟨⟨av4, bv4⟩, rfl, xp6, yp6⟩ := p6
  refine z_if_eq (tgt := 38) F dX6_readAtom_11 (by decide +kernel) (by omega) (fun c7 => ?_) (fun c7 => ?_)
  · refine z_iload_n F dX6_readAtom_38 rfl (q := 0) rfl ?_
    refine z_if_eq (tgt := 60) F dX6_readAtom_39 (by decide +kernel) (by omega) (fun c8 => ?_) (fun c8 => ?_)
    · refine z_aload_n F dX6_readAtom_60 rfl (q := 1) rfl ?_
      refine gf_X6_36 F hI gs_18 rfl bd_18_1 dX6_readAtom_61 (fun v9 ev9 av9 bv9 => ?_)
      refine z_if_ne (tgt := 96) F dX6_readAtom_64 (by decide +kernel) (by omega) (fun c10 => ?_) (fun c10 => ?_)
      · refine z_aload_n F dX6_readAtom_96 rfl (q := 1) rfl ?_
        refine zv_v (rest := []) F (kp_X6_refuse_18 l M ⟨hI, hW⟩) cs_X6_90 (T := TX6) (N := 9) (ci := 6) rfl gs_18 (by omega) (by decide) rfl rfl rfl (Nat.le_of_ble_eq_true rfl) dX6_readAtom_97 (fun M11 hI p12 => ?_)
        obtain ⟨hI, hW⟩ := hI
        obtain ⟨fp12, xp12, yp12⟩ := p12
        have hF := hF.call fp12 (by decide)
        have y13 := anyC_n (by rw [tkC_lt (c := 2) (by decide) (by decide)]; omega) yp12
        exact hret _ 100 _ ⟨hI, hW⟩ ⟨hF, (by omega), (by rw [← y13]; exact r_num (yp3.elim (fun q => absurd (by omega) q.1) (fun q => q.2)) (wz_f yp6 (by omega)))⟩ dX6_readAtom_100
      · refine z_aload_n F dX6_readAtom_67 rfl (q := 1) rfl ?_
        refine gf_X6_48 F hI gs_18 rfl bd_18_7 dX6_readAtom_68 (fun v15 ev15 av15 bv15 => ?_)
        refine z_iconst F dX6_readAtom_71 ?_
        refine z_icmp_ne (tgt := 96) F dX6_readAtom_72 (by decide +kernel) (by omega) (by omega) (fun c16 => ?_) (fun c16 => ?_)
        · refine z_aload_n F dX6_readAtom_96 rfl (q := 1) rfl ?_
          refine zv_v (rest := []) F (kp_X6_refuse_18 l M ⟨hI, hW⟩) cs_X6_90 (T := TX6) (N := 9) (ci := 6) rfl gs_18 (by omega) (by decide) rfl rfl rfl (Nat.le_of_ble_eq_true rfl) dX6_readAtom_97 (fun M17 hI p18 => ?_)
          obtain ⟨hI, hW⟩ := hI
          obtain ⟨fp18, xp18, yp18⟩ := p18
          have hF := hF.call fp18 (by decide)
          have y19 := anyC_n (by rw [tkC_lt (c := 2) (by decide) (by decide)]; omega) yp18
          exact hret _ 100 _ ⟨hI, hW⟩ ⟨hF, (by omega), (by rw [← y19]; exact r_num (yp3.elim (fun q => absurd (by omega) q.1) (fun q => q.2)) (wz_f yp6 (by omega)))⟩ dX6_readAtom_100
        · refine z_aload_n F dX6_readAtom_75 rfl (q := 1) rfl ?_
          refine rf_X6_12 F gs_18 rfl dX6_readAtom_76 ?_
          refine rf_X6_152 F gs_19 rfl dX6_readAtom_79 ?_
          refine z_aload_n F dX6_readAtom_82 rfl (q := 1) rfl ?_
          refine gf_X6_60 F hI gs_18 rfl bd_18_8 dX6_readAtom_83 (fun v21 ev21 av21 bv21 => ?_)
          refine zv_v (rest := []) F (k_X2_append_31 l M ⟨hI, hW⟩ v21 (by omega) (by omega)) cs_X6_239 (T := TX2) (N := 5) (ci := 2) rfl gs_31 (by omega) (by decide) rfl rfl rfl (Nat.le_of_ble_eq_true rfl) dX6_readAtom_86 (fun M22 hI p23 => ?_)
          obtain ⟨hI, hW⟩ := hI
          obtain ⟨fp23, yp23⟩ := p23
          have hF := hF.call fp23 (by decide)
          have tM22_18_1 : M22 18 1 = M 18 1 := fp23.at (by decide)
          have tM22_18_4 : M22 18 4 = M 18 4 := fp23.at (by decide)
          have tM22_18_5 : M22 18 5 = M 18 5 := fp23.at (by decide)
          have tM22_18_6 : M22 18 6 = M 18 6 := fp23.at (by decide)
          have tM22_18_7 : M22 18 7 = M 18 7 := fp23.at (by decide)
          refine z_aload_n F dX6_readAtom_89 rfl (q := 1) rfl ?_
          refine zv_v (rest := []) F (kp_X6_advance_18 l M22 ⟨hI, hW⟩ (by omega)) cs_X6_42 (T := TX6) (N := 9) (ci := 6) rfl gs_18 (by omega) (by decide) rfl rfl rfl (Nat.le_of_ble_eq_true rfl) dX6_readAtom_90 (fun M24 hI p25 => ?_)
          obtain ⟨hI, hW⟩ := hI
          obtain ⟨fp25, xp25, yp25⟩ := p25
          have hF := hF.call fp25 (by decide)
          refine z_goto (tgt := 100) F dX6_readAtom_93 (by decide +kernel) ?_
          have q27 := yp25 (by omega)
          rw [yp23] at q27
          have y26 := anyC_t (by omega) (by rw [tkC_lt (c := 2) (by decide) (by decide)]; omega) q27
          exact hret _ 100 _ ⟨hI, hW⟩ ⟨hF, (by omega), (by rw [← y26]; exact r_num (yp3.elim (fun q => absurd (by omega) q.1) (fun q => q.2)) (wz_f yp6 (by omega)))⟩ dX6_readAtom_100
    · refine z_aload_n F dX6_readAtom_42 rfl (q := 1) rfl ?_
      refine rf_X6_12 F gs_18 rfl dX6_readAtom_43 ?_
      refine rf_X6_152 F gs_19 rfl dX6_readAtom_46 ?_
      refine z_iload_n F dX6_readAtom_49 rfl (q := 0) rfl ?_
      refine zv_v (rest := []) F (k_X2_append_31 l M ⟨hI, hW⟩ v1 (by omega) (by omega)) cs_X6_239 (T := TX2) (N := 5) (ci := 2) rfl gs_31 (by omega) (by decide) rfl rfl rfl (Nat.le_of_ble_eq_true rfl) dX6_readAtom_50 (fun M28 hI p29 => ?_)
      obtain ⟨hI, hW⟩ := hI
      obtain ⟨fp29, yp29⟩ := p29
      have hF := hF.call fp29 (by decide)
      have tM28_18_1 : M28 18 1 = M 18 1 := fp29.at (by decide)
      have tM28_18_4 : M28 18 4 = M 18 4 := fp29.at (by decide)
      have tM28_18_5 : M28 18 5 = M 18 5 := fp29.at (by decide)
      have tM28_18_6 : M28 18 6 = M 18 6 := fp29.at (by decide)
      have tM28_18_7 : M28 18 7 = M 18 7 := fp29.at (by decide)
      refine z_aload_n F dX6_readAtom_53 rfl (q := 1) rfl ?_
      refine zv_v (rest := []) F (kp_X6_advance_18 l M28 ⟨hI, hW⟩ (by omega)) cs_X6_42 (T := TX6) (N := 9) (ci := 6) rfl gs_18 (by omega) (by decide) rfl rfl rfl (Nat.le_of_ble_eq_true rfl) dX6_readAtom_54 (fun M30 hI p31 => ?_)
      obtain ⟨hI, hW⟩ := hI
      obtain ⟨fp31, xp31, yp31⟩ := p31
      have hF := hF.call fp31 (by decide)
      refine z_goto (tgt := 100) F dX6_readAtom_57 (by decide +kernel) ?_
      have q33 := yp31 (by omega)
      rw [yp29] at q33
      exact hret _ 100 _ ⟨hI, hW⟩ ⟨hF, (by omega), (by rw [← q33]; exact r_law (yp3.elim (fun q => q.2) (fun q => absurd q.1 (by omega))))⟩ dX6_readAtom_100
  · refine z_aload_n F dX6_readAtom_14 rfl (q := 1) rfl ?_
    refine z_iload_n F dX6_readAtom_15 rfl (q := 2) rfl ?_
    refine zv_i (rest := []) F (kp_X6_goDeeper_18 l M ⟨hI, hW⟩ x0 (by omega) (by omega) (by omega)) cs_X6_249 (T := TX6) (N := 9) (ci := 6) rfl gs_18 (by omega) (by decide) rfl rfl rfl (Nat.le_of_ble_eq_true rfl) dX6_readAtom_16 (fun v34 M35 rv34 hI p36 => ?_)
    obtain ⟨hI, hW⟩ := hI
    obtain ⟨⟨av34, bv34⟩, fp36, xp36, yp36⟩ := p36
    have hF := hF.call fp36 (by decide)
    refine z_if_eq (tgt := 100) F dX6_readAtom_19 (by decide +kernel) (by omega) (fun c37 => ?_) (fun c37 => ?_)
    · have q39 := yp36 (by omega)
      have y38 := r_par (lawW_40 (wz_t yp6 (by omega))) (wz_t yp6 (by omega)) (show RdE 3 (x0 + 1) (goIn x0 (absC M)) (absC M35) from by rw [q39]; exact rdE_f (by rw [vC_fl]; omega))
      rw [mustT_f (by rw [vC_fl]; omega)] at y38
      exact hret _ 100 _ ⟨hI, hW⟩ ⟨hF, (by omega), y38⟩ dX6_readAtom_100
    · refine z_aload_n F dX6_readAtom_22 rfl (q := 1) rfl ?_
      refine z_iload_n F dX6_readAtom_23 rfl (q := 2) rfl ?_
      refine z_iconst F dX6_readAtom_24 ?_
      refine z_iadd F dX6_readAtom_25 ?_
      refine zv_v (rest := []) F (ih.2.2.2.1 M35 ⟨hI, hW⟩ (x0 + 1) (by omega) (by omega) (by omega) (by omega)) cs_X6_253 (T := TX6) (N := 9) (ci := 6) rfl gs_18 (by omega) (by decide) rfl rfl rfl (Nat.le_of_ble_eq_true rfl) dX6_readAtom_26 (fun M40 hI p41 => ?_)
      obtain ⟨hI, hW⟩ := hI
      obtain ⟨fp41, xp41, yp41⟩ := p41
      have hF := hF.call fp41 (by decide)
      refine z_aload_n F dX6_readAtom_29 rfl (q := 1) rfl ?_
      refine z_bipush F dX6_readAtom_30 (by decide +kernel) ?_
      refine zv_v (rest := []) F (kp_X6_needSign_18 l M40 ⟨hI, hW⟩ 41 (by omega) (by omega) (by omega)) cs_X6_120 (T := TX6) (N := 9) (ci := 6) rfl gs_18 (by omega) (by decide) rfl rfl rfl (Nat.le_of_ble_eq_true rfl) dX6_readAtom_32 (fun M42 hI p43 => ?_)
      obtain ⟨hI, hW⟩ := hI
      obtain ⟨fp43, xp43, yp43⟩ := p43
      have hF := hF.call fp43 (by decide)
      refine z_goto (tgt := 100) F dX6_readAtom_35 (by decide +kernel) ?_
      have q45 := yp36 (by omega)
      have y44 := yp41
      rw [← q45] at y44
      exact hret _ 100 _ ⟨hI, hW⟩ ⟨hF, (by omega), (by rw [← yp43]; exact r_par (lawW_40 (wz_t yp6 (by omega))) (wz_t yp6 (by omega)) y44)⟩ dX6_readAtom_100
theorem RdX_all (l : Launch) : ∀ nr : Nat, RdX l nr := by
  intro nr
  induction nr with
  | zero => exact ⟨fun M hJ x0 hx0a hx0b hp0 hmu => by exfalso; omega, fun M hJ x0 hx0a hx0b hp0 hmu => by exfalso; omega, fun M hJ x0 hx0a hx0b hp0 hmu => by exfalso; omega, fun M hJ x0 hx0a hx0b hp0 hmu => by exfalso; omega, fun M hJ x0 hx0a hx0b hp0 hmu => by exfalso; omega, fun M hJ x0 hx0a hx0b hp0 hmu => by exfalso; omega⟩
  | succ nr ih => exact ⟨kp_X6_readTruth_18 l nr ih, kp_X6_readBoth_18 l nr ih, kp_X6_readUnit_18 l nr ih, kp_X6_readSum_18 l nr ih, kp_X6_readTerm_18 l nr ih, kp_X6_readAtom_18 l nr ih⟩
