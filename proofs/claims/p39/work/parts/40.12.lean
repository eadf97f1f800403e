theorem dX11_town_0 : decode cX11_town 0 = .ok (.iload_n 1, 1) := by decide +kernel
theorem dX11_town_1 : decode cX11_town 1 = .ok (.ifCond .lt 11, 3) := by decide +kernel
theorem dX11_town_12 : decode cX11_town 12 = .ok (.new 101, 3) := by decide +kernel
theorem dX11_town_15 : decode cX11_town 15 = .ok (.dup, 1) := by decide +kernel
theorem dX11_town_16 : decode cX11_town 16 = .ok (.ldc 103, 2) := by decide +kernel
theorem dX11_town_18 : decode cX11_town 18 = .ok (.invokespecial 105, 3) := by decide +kernel
theorem dX11_town_21 : decode cX11_town 21 = .ok (.athrow, 1) := by decide +kernel
theorem dX11_town_22 : decode cX11_town 22 = .ok (.aload_n 0, 1) := by decide +kernel
theorem dX11_town_23 : decode cX11_town 23 = .ok (.getfield 25, 3) := by decide +kernel
theorem dX11_town_26 : decode cX11_town 26 = .ok (.iload_n 1, 1) := by decide +kernel
theorem dX11_town_27 : decode cX11_town 27 = .ok (.invokevirtual 108, 3) := by decide +kernel
theorem dX11_town_30 : decode cX11_town 30 = .ok (.aload_n 0, 1) := by decide +kernel
theorem dX11_town_31 : decode cX11_town 31 = .ok (.iconst 0, 1) := by decide +kernel
theorem dX11_town_32 : decode cX11_town 32 = .ok (.putfield 93, 3) := by decide +kernel
theorem dX11_town_35 : decode cX11_town 35 = .ok (.aload_n 0, 1) := by decide +kernel
theorem dX11_town_36 : decode cX11_town 36 = .ok (.getfield 25, 3) := by decide +kernel
theorem dX11_town_39 : decode cX11_town 39 = .ok (.getfield 111, 3) := by decide +kernel
theorem dX11_town_4 : decode cX11_town 4 = .ok (.iload_n 1, 1) := by decide +kernel
theorem dX11_town_42 : decode cX11_town 42 = .ok (.ifCond .eq 14, 3) := by decide +kernel
theorem dX11_town_45 : decode cX11_town 45 = .ok (.bipush (-10), 2) := by decide +kernel
theorem dX11_town_47 : decode cX11_town 47 = .ok (.aload_n 0, 1) := by decide +kernel
theorem dX11_town_48 : decode cX11_town 48 = .ok (.getfield 25, 3) := by decide +kernel
theorem dX11_town_5 : decode cX11_town 5 = .ok (.aload_n 0, 1) := by decide +kernel
theorem dX11_town_51 : decode cX11_town 51 = .ok (.getfield 111, 3) := by decide +kernel
theorem dX11_town_54 : decode cX11_town 54 = .ok (.isub, 1) := by decide +kernel
theorem dX11_town_55 : decode cX11_town 55 = .ok (.ireturn, 1) := by decide +kernel
theorem dX11_town_56 : decode cX11_town 56 = .ok (.aload_n 0, 1) := by decide +kernel
theorem dX11_town_57 : decode cX11_town 57 = .ok (.getfield 16, 3) := by decide +kernel
theorem dX11_town_6 : decode cX11_town 6 = .ok (.getfield 93, 3) := by decide +kernel
theorem dX11_town_60 : decode cX11_town 60 = .ok (.aload_n 0, 1) := by decide +kernel
theorem dX11_town_61 : decode cX11_town 61 = .ok (.getfield 25, 3) := by decide +kernel
theorem dX11_town_64 : decode cX11_town 64 = .ok (.getfield 114, 3) := by decide +kernel
theorem dX11_town_67 : decode cX11_town 67 = .ok (.invokevirtual 117, 3) := by decide +kernel
theorem dX11_town_70 : decode cX11_town 70 = .ok (.aload_n 0, 1) := by decide +kernel
theorem dX11_town_71 : decode cX11_town 71 = .ok (.getfield 34, 3) := by decide +kernel
theorem dX11_town_74 : decode cX11_town 74 = .ok (.invokevirtual 120, 3) := by decide +kernel
theorem dX11_town_77 : decode cX11_town 77 = .ok (.aload_n 0, 1) := by decide +kernel
theorem dX11_town_78 : decode cX11_town 78 = .ok (.getfield 41, 3) := by decide +kernel
theorem dX11_town_81 : decode cX11_town 81 = .ok (.invokevirtual 123, 3) := by decide +kernel
theorem dX11_town_84 : decode cX11_town 84 = .ok (.aload_n 0, 1) := by decide +kernel
theorem dX11_town_85 : decode cX11_town 85 = .ok (.getfield 16, 3) := by decide +kernel
theorem dX11_town_88 : decode cX11_town 88 = .ok (.getfield 126, 3) := by decide +kernel
theorem dX11_town_9 : decode cX11_town 9 = .ok (.if_icmp .le 13, 3) := by decide +kernel
theorem dX11_town_91 : decode cX11_town 91 = .ok (.ireturn, 1) := by decide +kernel
theorem dX6_read_0 : decode cX6_read 0 = .ok (.aload_n 0, 1) := by decide +kernel
theorem dX6_read_1 : decode cX6_read 1 = .ok (.iload_n 1, 1) := by decide +kernel
theorem dX6_read_11 : decode cX6_read 11 = .ok (.putfield 30, 3) := by decide +kernel
theorem dX6_read_14 : decode cX6_read 14 = .ok (.aload_n 0, 1) := by decide +kernel
theorem dX6_read_15 : decode cX6_read 15 = .ok (.iconst 0, 1) := by decide +kernel
theorem dX6_read_16 : decode cX6_read 16 = .ok (.putfield 33, 3) := by decide +kernel
theorem dX6_read_19 : decode cX6_read 19 = .ok (.aload_n 0, 1) := by decide +kernel
theorem dX6_read_2 : decode cX6_read 2 = .ok (.iconst 0, 1) := by decide +kernel
theorem dX6_read_20 : decode cX6_read 20 = .ok (.iconst 0, 1) := by decide +kernel
theorem dX6_read_21 : decode cX6_read 21 = .ok (.putfield 36, 3) := by decide +kernel
theorem dX6_read_24 : decode cX6_read 24 = .ok (.aload_n 0, 1) := by decide +kernel
theorem dX6_read_25 : decode cX6_read 25 = .ok (.iconst (-1), 1) := by decide +kernel
theorem dX6_read_26 : decode cX6_read 26 = .ok (.putfield 18, 3) := by decide +kernel
theorem dX6_read_29 : decode cX6_read 29 = .ok (.aload_n 0, 1) := by decide +kernel
theorem dX6_read_3 : decode cX6_read 3 = .ok (.aload_n 0, 1) := by decide +kernel
theorem dX6_read_30 : decode cX6_read 30 = .ok (.getfield 12, 3) := by decide +kernel
theorem dX6_read_33 : decode cX6_read 33 = .ok (.invokevirtual 39, 3) := by decide +kernel
theorem dX6_read_36 : decode cX6_read 36 = .ok (.aload_n 0, 1) := by decide +kernel
theorem dX6_read_37 : decode cX6_read 37 = .ok (.invokevirtual 42, 3) := by decide +kernel
theorem dX6_read_4 : decode cX6_read 4 = .ok (.getfield 22, 3) := by decide +kernel
theorem dX6_read_40 : decode cX6_read 40 = .ok (.aload_n 0, 1) := by decide +kernel
theorem dX6_read_41 : decode cX6_read 41 = .ok (.invokevirtual 45, 3) := by decide +kernel
theorem dX6_read_44 : decode cX6_read 44 = .ok (.iconst 0, 1) := by decide +kernel
theorem dX6_read_45 : decode cX6_read 45 = .ok (.istore_n 2, 1) := by decide +kernel
theorem dX6_read_46 : decode cX6_read 46 = .ok (.iload_n 2, 1) := by decide +kernel
theorem dX6_read_47 : decode cX6_read 47 = .ok (.sipush 900, 3) := by decide +kernel
theorem dX6_read_50 : decode cX6_read 50 = .ok (.if_icmp .ge 27, 3) := by decide +kernel
theorem dX6_read_53 : decode cX6_read 53 = .ok (.aload_n 0, 1) := by decide +kernel
theorem dX6_read_54 : decode cX6_read 54 = .ok (.getfield 36, 3) := by decide +kernel
theorem dX6_read_57 : decode cX6_read 57 = .ok (.ifCond .ne 20, 3) := by decide +kernel
theorem dX6_read_60 : decode cX6_read 60 = .ok (.aload_n 0, 1) := by decide +kernel
theorem dX6_read_61 : decode cX6_read 61 = .ok (.getfield 48, 3) := by decide +kernel
theorem dX6_read_64 : decode cX6_read 64 = .ok (.ifCond .eq 13, 3) := by decide +kernel
theorem dX6_read_67 : decode cX6_read 67 = .ok (.aload_n 0, 1) := by decide +kernel
theorem dX6_read_68 : decode cX6_read 68 = .ok (.invokevirtual 51, 3) := by decide +kernel
theorem dX6_read_7 : decode cX6_read 7 = .ok (.arraylength, 1) := by decide +kernel
theorem dX6_read_71 : decode cX6_read 71 = .ok (.iinc 2 1, 3) := by decide +kernel
theorem dX6_read_74 : decode cX6_read 74 = .ok (.goto (-28), 3) := by decide +kernel
theorem dX6_read_77 : decode cX6_read 77 = .ok (.aload_n 0, 1) := by decide +kernel
theorem dX6_read_78 : decode cX6_read 78 = .ok (.getfield 36, 3) := by decide +kernel
theorem dX6_read_8 : decode cX6_read 8 = .ok (.invokestatic 26, 3) := by decide +kernel
theorem dX6_read_81 : decode cX6_read 81 = .ok (.ifCond .ne 10, 3) := by decide +kernel
theorem dX6_read_84 : decode cX6_read 84 = .ok (.aload_n 0, 1) := by decide +kernel
theorem dX6_read_85 : decode cX6_read 85 = .ok (.getfield 12, 3) := by decide +kernel
theorem dX6_read_88 : decode cX6_read 88 = .ok (.invokevirtual 54, 3) := by decide +kernel
theorem dX6_read_91 : decode cX6_read 91 = .ok (.return_, 1) := by decide +kernel
set_option maxHeartbeats 4000000 in
set_option maxRecDepth 4000 in
theorem kp_X6_read_18 (l : Launch) (M : Mem) (hJ : Iw M) (x0 : Int) (hx0a : 0 ≤ x0) (hx0b : x0 ≤ 900) : CV l yX6_read cX6_read 3 none 75 (fun ad => [.ref (ad 18), ii x0]) M (fun M' => Fr [18, 19, 20, 21, 22, 23, 24, 25, 26, 27, 28, 29, 30, 31, 32] M M') := by
  obtain ⟨hI, hW⟩ := hJ
  have hF : Fr [18, 19, 20, 21, 22, 23, 24, 25, 26, 27, 28, 29, 30, 31, 32] M M := Fr.rf
  refine en_v (by decide +kernel) (fun ad => by exact Nat.le_of_ble_eq_true rfl) (fun D cy ad A p e s m args below meth c Q F hret => ?_)
  refine z_eq (ls' := [(0, .ref (ad 18)), (1, ii x0)]) rfl rfl rfl ?_
  refine z_aload_n F dX6_read_0 rfl (q := 0) rfl ?_
  refine z_iload_n F dX6_read_1 rfl (q := 1) rfl ?_
  refine z_iconst F dX6_read_2 ?_
  refine z_aload_n F dX6_read_3 rfl (q := 0) rfl ?_
  refine rf_X6_22 F gs_18 rfl dX6_read_4 ?_
  refine z_alen (x := 900) F gs_1 rfl rfl dX6_read_7 ?_
  refine zn_i (rest := [.ref (ad 18)]) F (k_X11_keptWithin l M ⟨hI, hW⟩ x0 (by omega) (by omega) 0 (by omega) (by omega) 900 (by omega) (by omega)) cs_X6_26 (by decide) (by decide) rfl rfl rfl (Nat.le_of_ble_eq_true rfl) dX6_read_8 (fun v1 M2 rv1 hI p3 => ?_)
  obtain ⟨hI, hW⟩ := hI
  obtain ⟨⟨av1, bv1⟩, rfl, xp3⟩ := p3
  have hkv1 : 0 ≤ v1 ∧ v1 ≤ 900 := by omega
  refine pf_X6_30 F hI gs_18 rfl bd_18_4 rfl rfl dX6_read_11 (by omega) (by omega) (fun M5 hI sf4 f4 => ?_)
  have tM5_18_1 : M5 18 1 = M 18 1 := f4 18 1 (fun q => absurd q.2 (by decide))
  have tM5_18_5 : M5 18 5 = M 18 5 := f4 18 5 (fun q => absurd q.2 (by decide))
  have tM5_18_6 : M5 18 6 = M 18 6 := f4 18 6 (fun q => absurd q.2 (by decide))
  have hF := hF.wr f4 (by decide) (by decide)
  have hW : WFk M5 := hW.site f4 (by decide)
  refine z_aload_n F dX6_read_14 rfl (q := 0) rfl ?_
  refine z_iconst F dX6_read_15 ?_
  refine pf_X6_33 F hI gs_18 rfl bd_18_5 rfl rfl dX6_read_16 (by omega) (by omega) (fun M7 hI sf6 f6 => ?_)
  have tM7_18_1 : M7 18 1 = M5 18 1 := f6 18 1 (fun q => absurd q.2 (by decide))
  have tM7_18_4 : M7 18 4 = M5 18 4 := f6 18 4 (fun q => absurd q.2 (by decide))
  have tM7_18_6 : M7 18 6 = M5 18 6 := f6 18 6 (fun q => absurd q.2 (by decide))
  have hF := hF.wr f6 (by decide) (by decide)
  have hW : WFk M7 := hW.site f6 (by decide)
  refine z_aload_n F dX6_read_19 rfl (q := 0) rfl ?_
  refine z_iconst F dX6_read_20 ?_
  refine pf_X6_36 F hI gs_18 rfl bd_18_1 rfl rfl dX6_read_21 (by omega) (by omega) (fun M9 hI sf8 f8 => ?_)
  have tM9_18_4 : M9 18 4 = M7 18 4 := f8 18 4 (fun q => absurd q.2 (by decide))
  have tM9_18_5 : M9 18 5 = M7 18 5 := f8 18 5 (fun q => absurd q.2 (by decide))
  have tM9_18_6 : M9 18 6 = M7 18 6 := f8 18 6 (fun q => absurd q.2 (by decide))
  have hF := hF.wr f8 (by decide) (by decide)
  have hW : WFk M9 := hW.site f8 (by decide)
  refine z_aload_n F dX6_read_24 rfl (q := 0) rfl ?_
  refine z_iconst F dX6_read_25 ?_
  refine pf_X6_18 F hI gs_18 rfl bd_18_2 rfl rfl dX6_read_26 (by omega) (by omega) (fun M11 hI sf10 f10 => ?_)
  have tM11_18_1 : M11 18 1 = M9 18 1 := f10 18 1 (fun q => absurd q.2 (by decide))
  have tM11_18_4 : M11 18 4 = M9 18 4 := f10 18 4 (fun q => absurd q.2 (by decide))
  have tM11_18_5 : M11 18 5 = M9 18 5 := f10 18 5 (fun q => absurd q.2 (by decide))
  have tM11_18_6 : M11 18 6 = M9 18 6 := f10 18 6 (fun q => absurd q.2 (by decide))
  have hF := hF.wr f10 (by decide) (by decide)
  have hW : WFk M11 := hW.site f10 (by decide)
  refine z_aload_n F dX6_read_29 rfl (q := 0) rfl ?_
  refine rf_X6_12 F gs_18 rfl dX6_read_30 ?_
  refine zv_v (rest := []) F (k_X9_clear_19 l M11 ⟨hI, hW⟩) cs_X6_39 (T := TX9) (N := 18) (ci := 9) rfl gs_19 (by decide) (by decide) rfl rfl rfl (Nat.le_of_ble_eq_true rfl) dX6_read_33 (fun M12 hI p13 => ?_)
  obtain ⟨hI, hW⟩ := hI
  have fp13 := p13
  have hF := hF.call fp13 (by decide)
  have tM12_18_1 : M12 18 1 = M11 18 1 := fp13.at (by decide)
  have tM12_18_4 : M12 18 4 = M11 18 4 := fp13.at (by decide)
  have tM12_18_5 : M12 18 5 = M11 18 5 := fp13.at (by decide)
  have tM12_18_6 : M12 18 6 = M11 18 6 := fp13.at (by decide)
  refine z_aload_n F dX6_read_36 rfl (q := 0) rfl ?_
  refine zv_v (rest := []) F (kp_X6_advance_18 l M12 ⟨hI, hW⟩ (by omega)) cs_X6_42 (T := TX6) (N := 9) (ci := 6) rfl gs_18 (by decide) (by decide) rfl rfl rfl (Nat.le_of_ble_eq_true rfl) dX6_read_37 (fun M14 hI p15 => ?_)
  obtain ⟨hI, hW⟩ := hI
  obtain ⟨fp15, xp15⟩ := p15
  have hF := hF.call fp15 (by decide)
  refine z_aload_n F dX6_read_40 rfl (q := 0) rfl ?_
  refine zv_v (rest := []) F (kp_X6_readPlaces_18 l M14 ⟨hI, hW⟩ (by omega)) cs_X6_45 (T := TX6) (N := 9) (ci := 6) rfl gs_18 (by decide) (by decide) rfl rfl rfl (Nat.le_of_ble_eq_true rfl) dX6_read_41 (fun M16 hI p17 => ?_)
  obtain ⟨hI, hW⟩ := hI
  obtain ⟨fp17, xp17⟩ := p17
  have hF := hF.call fp17 (by decide)
  refine z_iconst F dX6_read_44 ?_
  refine z_istore_n F dX6_read_45 rfl (by decide) (ls' := [(2, ii 0), (0, .ref (ad 18)), (1, ii x0)]) rfl ?_
  refine z_loc [1, 0] (ls' := [(0, .ref (ad 18)), (2, ii 0)]) rfl ?_
  suffices key46 : ∀ (n : Nat) (y19 : Int) (M18 : Mem), Inv M18 → WFk M18 → Fr [18, 19, 20, 21, 22, 23, 24, 25, 26, 27, 28, 29, 30, 31, 32] M M18 → 0 ≤ y19 → y19 ≤ 900 → (M18 18 6 ≤ M18 18 5 ∧ M18 18 5 ≤ M18 18 4) → 900 - y19 < (n : Int) → Z D cy ad p l e (RMh 75) s m args below meth c A 3 0 0 Q 46 [(0, .ref (ad 18)), (2, ii y19)] [] M18 from key46 901 0 M16 hI hW hF (by omega) (by omega) (by omega) (by omega)
  intro n46
  induction n46 with
  | zero => intro y19 M18 hI hW hF ay19 by19 i46_0 hn46; exfalso; omega
  | succ n46 ih46 =>
    intro y19 M18 hI hW hF ay19 by19 i46_0 hn46
    refine z_iload_n F dX6_read_46 rfl (q := 1) rfl ?_
    refine z_sipush F dX6_read_47 (by decide +kernel) ?_
    refine z_icmp_ge (tgt := 77) F dX6_read_50 (by decide +kernel) (by omega) (by omega) (fun c20 => ?_) (fun c20 => ?_)
    · refine z_aload_n F dX6_read_77 rfl (q := 0) rfl ?_
      refine gf_X6_36 F hI gs_18 rfl bd_18_1 dX6_read_78 (fun v21 ev21 av21 bv21 => ?_)
      refine z_if_ne (tgt := 91) F dX6_read_81 (by decide +kernel) (by omega) (fun c22 => ?_) (fun c22 => ?_)
      · exact hret _ 91 _ ⟨hI, hW⟩ hF dX6_read_91
      · refine z_aload_n F dX6_read_84 rfl (q := 0) rfl ?_
        refine rf_X6_12 F gs_18 rfl dX6_read_85 ?_
        refine zv_v (rest := []) F (k_X9_settle_19 l M18 ⟨hI, hW⟩) cs_X6_54 (T := TX9) (N := 18) (ci := 9) rfl gs_19 (by decide) (by decide) rfl rfl rfl (Nat.le_of_ble_eq_true rfl) dX6_read_88 (fun M23 hI p24 => ?_)
        obtain ⟨hI, hW⟩ := hI
        have fp24 := p24
        have hF := hF.call fp24 (by decide)
        have tM23_18_1 : M23 18 1 = M18 18 1 := fp24.at (by decide)
        have tM23_18_4 : M23 18 4 = M18 18 4 := fp24.at (by decide)
        have tM23_18_5 : M23 18 5 = M18 18 5 := fp24.at (by decide)
        have tM23_18_6 : M23 18 6 = M18 18 6 := fp24.at (by decide)
        exact hret _ 91 _ ⟨hI, hW⟩ hF dX6_read_91
    · refine z_aload_n F dX6_read_53 rfl (q := 0) rfl ?_
      refine gf_X6_36 F hI gs_18 rfl bd_18_1 dX6_read_54 (fun v25 ev25 av25 bv25 => ?_)
      refine z_if_ne (tgt := 77) F dX6_read_57 (by decide +kernel) (by omega) (fun c26 => ?_) (fun c26 => ?_)
      · refine z_aload_n F dX6_read_77 rfl (q := 0) rfl ?_
        refine gf_X6_36 F hI gs_18 rfl bd_18_1 dX6_read_78 (fun v27 ev27 av27 bv27 => ?_)
        have zv27 : v25 = v27 := ev25.trans ev27.symm
        subst zv27
        refine z_if_ne (tgt := 91) F dX6_read_81 (by decide +kernel) (by omega) (fun c28 => ?_) (fun c28 => ?_)
        · exact hret _ 91 _ ⟨hI, hW⟩ hF dX6_read_91
        · refine z_aload_n F dX6_read_84 rfl (q := 0) rfl ?_
          refine rf_X6_12 F gs_18 rfl dX6_read_85 ?_
          refine zv_v (rest := []) F (k_X9_settle_19 l M18 ⟨hI, hW⟩) cs_X6_54 (T := TX9) (N := 18) (ci := 9) rfl gs_19 (by decide) (by decide) rfl rfl rfl (Nat.le_of_ble_eq_true rfl) dX6_read_88 (fun M29 hI p30 => ?_)
          obtain ⟨hI, hW⟩ := hI
          have fp30 := p30
          have hF := hF.call fp30 (by decide)
          have tM29_18_1 : M29 18 1 = M18 18 1 := fp30.at (by decide)
          have tM29_18_4 : M29 18 4 = M18 18 4 := fp30.at (by decide)
          have tM29_18_5 : M29 18 5 = M18 18 5 := fp30.at (by decide)
          have tM29_18_6 : M29 18 6 = M18 18 6 := fp30.at (by decide)
          exact hret _ 91 _ ⟨hI, hW⟩ hF dX6_read_91
      · refine z_aload_n F dX6_read_60 rfl (q := 0) rfl ?_
        refine gf_X6_48 F hI gs_18 rfl bd_18_7 dX6_read_61 (fun v31 ev31 av31 bv31 => ?_)
        refine z_if_eq (tgt := 77) F dX6_read_64 (by decide +kernel) (by omega) (fun c32 => ?_) (fun c32 => ?_)
        · refine z_aload_n F dX6_read_77 rfl (q := 0) rfl ?_
          refine gf_X6_36 F hI gs_18 rfl bd_18_1 dX6_read_78 (fun v33 ev33 av33 bv33 => ?_)
          have zv33 : v25 = v33 := ev25.trans ev33.symm
          subst zv33
          refine z_if_ne (tgt := 91) F dX6_read_81 (by decide +kernel) (by omega) (fun c34 => by exfalso; omega) (fun c34 => ?_)
          refine z_aload_n F dX6_read_84 rfl (q := 0) rfl ?_
          refine rf_X6_12 F gs_18 rfl dX6_read_85 ?_
          refine zv_v (rest := []) F (k_X9_settle_19 l M18 ⟨hI, hW⟩) cs_X6_54 (T := TX9) (N := 18) (ci := 9) rfl gs_19 (by decide) (by decide) rfl rfl rfl (Nat.le_of_ble_eq_true rfl) dX6_read_88 (fun M35 hI p36 => ?_)
          obtain ⟨hI, hW⟩ := hI
          have fp36 := p36
          have hF := hF.call fp36 (by decide)
          have tM35_18_1 : M35 18 1 = M18 18 1 := fp36.at (by decide)
          have tM35_18_4 : M35 18 4 = M18 18 4 := fp36.at (by decide)
          have tM35_18_5 : M35 18 5 = M18 18 5 := fp36.at (by decide)
          have tM35_18_6 : M35 18 6 = M18 18 6 := fp36.at (by decide)
          exact hret _ 91 _ ⟨hI, hW⟩ hF dX6_read_91
        · refine z_aload_n F dX6_read_67 rfl (q := 0) rfl ?_
          refine zv_v (rest := []) F (kp_X6_readLine_18 l M18 ⟨hI, hW⟩ (by omega)) cs_X6_51 (T := TX6) (N := 9) (ci := 6) rfl gs_18 (by decide) (by decide) rfl rfl rfl (Nat.le_of_ble_eq_true rfl) dX6_read_68 (fun M37 hI p38 => ?_)
          obtain ⟨hI, hW⟩ := hI
          obtain ⟨fp38, xp38⟩ := p38
          have hF := hF.call fp38 (by decide)
          refine z_iincN F dX6_read_71 (q := 1) rfl (by decide) (fun v39 ev39 => ?_)
          refine z_eq (ls' := [(2, ii v39), (0, .ref (ad 18))]) rfl rfl rfl ?_
          refine z_goto (tgt := 46) F dX6_read_74 (by decide +kernel) ?_
          refine z_loc [1, 0] (ls' := [(0, .ref (ad 18)), (2, ii v39)]) rfl ?_
          exact ih46 v39 M37 hI hW hF (by omega) (by omega) (by omega) (by omega)
set_option maxRecDepth 4000 in
theorem k_X11_town (l : Launch) (hlT : l.stackTraces = false) (M : Mem) (hJ : Iw M) (x0 : Int) (hx0a : (-2147483648) ≤ x0) (hx0b : x0 ≤ 2147483647) : CIX l yX11_town cX11_town 2 (some .int) 76 1 (fun ad => [.ref (ad 0), ii x0]) M (fun z M' => ((-2147483648) ≤ z ∧ z ≤ 2147483647) ∧ Fr [0, 2, 3, 4, 5, 6, 7, 8, 9, 10, 11, 12, 13, 14, 15, 16, 17, 18, 19, 20, 21, 22, 23, 24, 25, 26, 27, 28, 29, 30, 31, 32, 35, 36, 37, 38, 39, 40, 200] M M' ∧ (0 ≤ x0 ∧ x0 ≤ M 0 1 ∧ M' 0 1 = 0)) (fun E M' => (E = "java/lang/IllegalArgumentException" ∧ ((x0 < 0 ∨ M 0 1 < x0) ∧ M' 0 1 = M 0 1) ∧ Fr [0, 2, 3, 4, 5, 6, 7, 8, 9, 10, 11, 12, 13, 14, 15, 16, 17, 18, 19, 20, 21, 22, 23, 24, 25, 26, 27, 28, 29, 30, 31, 32, 35, 36, 37, 38, 39, 40, 200] M M')) := by
  obtain ⟨hI, hW⟩ := hJ
  have hF : Fr [0, 2, 3, 4, 5, 6, 7, 8, 9, 10, 11, 12, 13, 14, 15, 16, 17, 18, 19, 20, 21, 22, 23, 24, 25, 26, 27, 28, 29, 30, 31, 32, 35, 36, 37, 38, 39, 40, 200] M M := Fr.rf
  refine enx_i (by decide +kernel) (fun ad => by exact Nat.le_of_ble_eq_true rfl) (fun D cy ad A p e s m args below meth c Q F hQ hr hlk hex => ?_)
  refine z_eq (ls' := [(0, .ref (ad 0)), (1, ii x0)]) rfl rfl rfl ?_
  obtain ⟨u1, eu1⟩ : ∃ v : Int, v = M 0 1 := ⟨_, rfl⟩
  have ku1 : 0 ≤ u1 ∧ u1 ≤ 900 := by have := hI.at (show Bd 0 1 = (0, 900) from rfl); omega
  refine z_iload_n F dX11_town_0 rfl (q := 1) rfl ?_
  refine z_if_lt (tgt := 12) F dX11_town_1 (by decide +kernel) (by omega) (fun c2 => ?_) (fun c2 => ?_)
  · exact z_thrS (cls := "java/lang/IllegalArgumentException") (names := ["java/lang/RuntimeException", "java/lang/Exception"]) (j := 0) F hlT hQ hlk hex (by decide +kernel) (by decide +kernel) (by decide) (gin lm_360 rfl) (gin lm_361 rfl) at_X11_105 bad_X11_105 (by decide +kernel) ot_X11_105 rfl rfl rfl dX11_town_12 dX11_town_15 dX11_town_16 dX11_town_18 dX11_town_21 ⟨by decide, by decide⟩ (Nat.le_of_ble_eq_true rfl) ⟨hI, hW⟩ (⟨rfl, (by omega), hF⟩)
  · refine z_iload_n F dX11_town_4 rfl (q := 1) rfl ?_
    refine z_aload_n F dX11_town_5 rfl (q := 0) rfl ?_
    refine gf_X11_93 F hI gs_0 rfl bd_0_1 dX11_town_6 (fun v3 ev3 av3 bv3 => ?_)
    have zv3 : u1 = v3 := eu1.trans ev3.symm
    subst zv3
    refine z_icmp_le (tgt := 22) F dX11_town_9 (by decide +kernel) (by omega) (by omega) (fun c4 => ?_) (fun c4 => ?_)
    · refine z_aload_n F dX11_town_22 rfl (q := 0) rfl ?_
      refine rf_X11_25 F gs_0 rfl dX11_town_23 ?_
      refine z_iload_n F dX11_town_26 rfl (q := 1) rfl ?_
      refine zw_v (rest := []) F (kp_X6_read_18 l M ⟨hI, hW⟩ x0 (by omega) (by omega)) cs_X11_108 (T := TX6) (N := 9) (ci := 6) rfl gs_18 (by decide) (by decide) ⟨by decide, by decide⟩ rfl rfl rfl (Nat.le_of_ble_eq_true rfl) dX11_town_27 (fun M5 hI p6 => ?_)
      obtain ⟨hI, hW⟩ := hI
      have fp6 := p6
      have hF := hF.call fp6 (by decide)
      refine z_aload_n F dX11_town_30 rfl (q := 0) rfl ?_
      refine z_iconst F dX11_town_31 ?_
      refine pf_X11_93 F hI gs_0 rfl bd_0_1 rfl rfl dX11_town_32 (by omega) (by omega) (fun M8 hI sf7 f7 => ?_)
      have hF := hF.wrz f7 (by decide) (by decide)
      have hW : WFk M8 := hW.site f7 (by decide)
      refine z_aload_n F dX11_town_35 rfl (q := 0) rfl ?_
      refine rf_X11_25 F gs_0 rfl dX11_town_36 ?_
      refine gf_X11_111 F hI gs_18 rfl bd_18_1 dX11_town_39 (fun v9 ev9 av9 bv9 => ?_)
      refine z_if_eq (tgt := 56) F dX11_town_42 (by decide +kernel) (by omega) (fun c10 => ?_) (fun c10 => ?_)
      · refine z_aload_n F dX11_town_56 rfl (q := 0) rfl ?_
        refine rf_X11_16 F gs_0 rfl dX11_town_57 ?_
        refine z_aload_n F dX11_town_60 rfl (q := 0) rfl ?_
        refine rf_X11_25 F gs_0 rfl dX11_town_61 ?_
        refine rf_X11_114 F gs_18 rfl dX11_town_64 ?_
        refine zw_v (rest := []) F (k_X9_copyFrom_2_19 l M8 ⟨hI, hW⟩) cs_X11_117 (T := TX9) (N := 18) (ci := 9) rfl gs_2 (by decide) (by decide) ⟨by decide, by decide⟩ rfl rfl rfl (Nat.le_of_ble_eq_true rfl) dX11_town_67 (fun M11 hI p12 => ?_)
        obtain ⟨hI, hW⟩ := hI
        have fp12 := p12
        have hF := hF.call fp12 (by decide)
        refine z_aload_n F dX11_town_70 rfl (q := 0) rfl ?_
        refine rf_X11_34 F gs_0 rfl dX11_town_71 ?_
        refine zw_v (rest := []) F (k_X7_settleIn_35 l M11 ⟨hI, hW⟩) cs_X11_120 (T := TX7) (N := 7) (ci := 7) rfl gs_35 (by decide) (by decide) ⟨by decide, by decide⟩ rfl rfl rfl (Nat.le_of_ble_eq_true rfl) dX11_town_74 (fun M13 hI p14 => ?_)
        obtain ⟨hI, hW⟩ := hI
        have fp14 := p14
        have hF := hF.call fp14 (by decide)
        refine z_aload_n F dX11_town_77 rfl (q := 0) rfl ?_
        refine rf_X11_41 F gs_0 rfl dX11_town_78 ?_
        refine zw_v (rest := []) F (k_X4_forget_40 l M13 ⟨hI, hW⟩) cs_X11_123 (T := TX4) (N := 3) (ci := 4) rfl gs_40 (by decide) (by decide) ⟨by decide, by decide⟩ rfl rfl rfl (Nat.le_of_ble_eq_true rfl) dX11_town_81 (fun M15 hI p16 => ?_)
        obtain ⟨hI, hW⟩ := hI
        have fp16 := p16
        have hF := hF.call fp16 (by decide)
        refine z_aload_n F dX11_town_84 rfl (q := 0) rfl ?_
        refine rf_X11_16 F gs_0 rfl dX11_town_85 ?_
        refine gf_X11_126 F hI gs_2 rfl bd_2_0 dX11_town_88 (fun v17 ev17 av17 bv17 => ?_)
        have q18 : 0 = M11 0 1 := sf7.symm.trans ((fp12.at (by decide)) : M11 0 1 = _).symm
        have q19 : 0 = M13 0 1 := q18.trans ((fp14.at (by decide)) : M13 0 1 = _).symm
        have q20 : 0 = M15 0 1 := q19.trans ((fp16.at (by decide)) : M15 0 1 = _).symm
        exact zxr_i F hQ hr hlk dX11_town_91 ⟨by decide, by decide⟩ (by omega) ⟨hI, hW⟩ ⟨⟨by omega, by omega⟩, hF, (by omega)⟩
      · refine z_bipush F dX11_town_45 (by decide +kernel) ?_
        refine z_aload_n F dX11_town_47 rfl (q := 0) rfl ?_
        refine rf_X11_25 F gs_0 rfl dX11_town_48 ?_
        refine gf_X11_111 F hI gs_18 rfl bd_18_1 dX11_town_51 (fun v21 ev21 av21 bv21 => ?_)
        have zv21 : v9 = v21 := ev9.trans ev21.symm
        subst zv21
        refine z_isub F dX11_town_54 ?_
        refine z_wrap (fun v22 rv22 wv22 => ?_)
        exact zxr_i F hQ hr hlk dX11_town_55 ⟨by decide, by decide⟩ (by omega) ⟨hI, hW⟩ ⟨⟨by omega, by omega⟩, hF, (by omega)⟩
    · exact z_thrS (cls := "java/lang/IllegalArgumentException") (names := ["java/lang/RuntimeException", "java/lang/Exception"]) (j := 0) F hlT hQ hlk hex (by decide +kernel) (by decide +kernel) (by decide) (gin lm_360 rfl) (gin lm_361 rfl) at_X11_105 bad_X11_105 (by decide +kernel) ot_X11_105 rfl rfl rfl dX11_town_12 dX11_town_15 dX11_town_16 dX11_town_18 dX11_town_21 ⟨by decide, by decide⟩ (Nat.le_of_ble_eq_true rfl) ⟨hI, hW⟩ (⟨rfl, (by omega), hF⟩)
