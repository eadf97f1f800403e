theorem dX6_readEvent_0 : decode cX6_readEvent 0 = .ok (.aload_n 0, 1) := by decide +kernel
theorem dX6_readEvent_1 : decode cX6_readEvent 1 = .ok (.aload_n 0, 1) := by decide +kernel
theorem dX6_readEvent_10 : decode cX6_readEvent 10 = .ok (.invokevirtual 166, 3) := by decide +kernel
theorem dX6_readEvent_100 : decode cX6_readEvent 100 = .ok (.getfield 218, 3) := by decide +kernel
theorem dX6_readEvent_103 : decode cX6_readEvent 103 = .ok (.iload 5, 2) := by decide +kernel
theorem dX6_readEvent_105 : decode cX6_readEvent 105 = .ok (.iload_n 2, 1) := by decide +kernel
theorem dX6_readEvent_106 : decode cX6_readEvent 106 = .ok (.iastore, 1) := by decide +kernel
theorem dX6_readEvent_107 : decode cX6_readEvent 107 = .ok (.aload_n 0, 1) := by decide +kernel
theorem dX6_readEvent_108 : decode cX6_readEvent 108 = .ok (.getfield 12, 3) := by decide +kernel
theorem dX6_readEvent_111 : decode cX6_readEvent 111 = .ok (.getfield 221, 3) := by decide +kernel
theorem dX6_readEvent_114 : decode cX6_readEvent 114 = .ok (.iload 5, 2) := by decide +kernel
theorem dX6_readEvent_116 : decode cX6_readEvent 116 = .ok (.iload_n 3, 1) := by decide +kernel
theorem dX6_readEvent_117 : decode cX6_readEvent 117 = .ok (.ifCond .eq 9, 3) := by decide +kernel
theorem dX6_readEvent_120 : decode cX6_readEvent 120 = .ok (.iload 4, 2) := by decide +kernel
theorem dX6_readEvent_122 : decode cX6_readEvent 122 = .ok (.ineg, 1) := by decide +kernel
theorem dX6_readEvent_123 : decode cX6_readEvent 123 = .ok (.goto 5, 3) := by decide +kernel
theorem dX6_readEvent_126 : decode cX6_readEvent 126 = .ok (.iload 4, 2) := by decide +kernel
theorem dX6_readEvent_128 : decode cX6_readEvent 128 = .ok (.iastore, 1) := by decide +kernel
theorem dX6_readEvent_129 : decode cX6_readEvent 129 = .ok (.aload_n 0, 1) := by decide +kernel
theorem dX6_readEvent_13 : decode cX6_readEvent 13 = .ok (.aload_n 0, 1) := by decide +kernel
theorem dX6_readEvent_130 : decode cX6_readEvent 130 = .ok (.getfield 12, 3) := by decide +kernel
theorem dX6_readEvent_133 : decode cX6_readEvent 133 = .ok (.dup, 1) := by decide +kernel
theorem dX6_readEvent_134 : decode cX6_readEvent 134 = .ok (.getfield 208, 3) := by decide +kernel
theorem dX6_readEvent_137 : decode cX6_readEvent 137 = .ok (.iconst 1, 1) := by decide +kernel
theorem dX6_readEvent_138 : decode cX6_readEvent 138 = .ok (.iadd, 1) := by decide +kernel
theorem dX6_readEvent_139 : decode cX6_readEvent 139 = .ok (.putfield 208, 3) := by decide +kernel
theorem dX6_readEvent_14 : decode cX6_readEvent 14 = .ok (.iconst 0, 1) := by decide +kernel
theorem dX6_readEvent_142 : decode cX6_readEvent 142 = .ok (.return_, 1) := by decide +kernel
theorem dX6_readEvent_15 : decode cX6_readEvent 15 = .ok (.sipush 999, 3) := by decide +kernel
theorem dX6_readEvent_18 : decode cX6_readEvent 18 = .ok (.invokevirtual 110, 3) := by decide +kernel
theorem dX6_readEvent_2 : decode cX6_readEvent 2 = .ok (.getfield 12, 3) := by decide +kernel
theorem dX6_readEvent_21 : decode cX6_readEvent 21 = .ok (.istore_n 1, 1) := by decide +kernel
theorem dX6_readEvent_22 : decode cX6_readEvent 22 = .ok (.aload_n 0, 1) := by decide +kernel
theorem dX6_readEvent_23 : decode cX6_readEvent 23 = .ok (.ldc 132, 2) := by decide +kernel
theorem dX6_readEvent_25 : decode cX6_readEvent 25 = .ok (.invokevirtual 106, 3) := by decide +kernel
theorem dX6_readEvent_28 : decode cX6_readEvent 28 = .ok (.aload_n 0, 1) := by decide +kernel
theorem dX6_readEvent_29 : decode cX6_readEvent 29 = .ok (.iconst 0, 1) := by decide +kernel
theorem dX6_readEvent_30 : decode cX6_readEvent 30 = .ok (.aload_n 0, 1) := by decide +kernel
theorem dX6_readEvent_31 : decode cX6_readEvent 31 = .ok (.getfield 12, 3) := by decide +kernel
theorem dX6_readEvent_34 : decode cX6_readEvent 34 = .ok (.getfield 181, 3) := by decide +kernel
theorem dX6_readEvent_37 : decode cX6_readEvent 37 = .ok (.iconst 1, 1) := by decide +kernel
theorem dX6_readEvent_38 : decode cX6_readEvent 38 = .ok (.isub, 1) := by decide +kernel
theorem dX6_readEvent_39 : decode cX6_readEvent 39 = .ok (.invokevirtual 110, 3) := by decide +kernel
theorem dX6_readEvent_42 : decode cX6_readEvent 42 = .ok (.istore_n 2, 1) := by decide +kernel
theorem dX6_readEvent_43 : decode cX6_readEvent 43 = .ok (.aload_n 0, 1) := by decide +kernel
theorem dX6_readEvent_44 : decode cX6_readEvent 44 = .ok (.ldc 211, 2) := by decide +kernel
theorem dX6_readEvent_46 : decode cX6_readEvent 46 = .ok (.invokevirtual 144, 3) := by decide +kernel
theorem dX6_readEvent_49 : decode cX6_readEvent 49 = .ok (.istore_n 3, 1) := by decide +kernel
theorem dX6_readEvent_5 : decode cX6_readEvent 5 = .ok (.getfield 208, 3) := by decide +kernel
theorem dX6_readEvent_50 : decode cX6_readEvent 50 = .ok (.iload_n 3, 1) := by decide +kernel
theorem dX6_readEvent_51 : decode cX6_readEvent 51 = .ok (.ifCond .ne 9, 3) := by decide +kernel
theorem dX6_readEvent_54 : decode cX6_readEvent 54 = .ok (.aload_n 0, 1) := by decide +kernel
theorem dX6_readEvent_55 : decode cX6_readEvent 55 = .ok (.ldc 213, 2) := by decide +kernel
theorem dX6_readEvent_57 : decode cX6_readEvent 57 = .ok (.invokevirtual 106, 3) := by decide +kernel
theorem dX6_readEvent_60 : decode cX6_readEvent 60 = .ok (.aload_n 0, 1) := by decide +kernel
theorem dX6_readEvent_61 : decode cX6_readEvent 61 = .ok (.iconst 1, 1) := by decide +kernel
theorem dX6_readEvent_62 : decode cX6_readEvent 62 = .ok (.bipush 9, 2) := by decide +kernel
theorem dX6_readEvent_64 : decode cX6_readEvent 64 = .ok (.invokevirtual 110, 3) := by decide +kernel
theorem dX6_readEvent_67 : decode cX6_readEvent 67 = .ok (.istore 4, 2) := by decide +kernel
theorem dX6_readEvent_69 : decode cX6_readEvent 69 = .ok (.aload_n 0, 1) := by decide +kernel
theorem dX6_readEvent_70 : decode cX6_readEvent 70 = .ok (.getfield 36, 3) := by decide +kernel
theorem dX6_readEvent_73 : decode cX6_readEvent 73 = .ok (.ifCond .ne 69, 3) := by decide +kernel
theorem dX6_readEvent_76 : decode cX6_readEvent 76 = .ok (.aload_n 0, 1) := by decide +kernel
theorem dX6_readEvent_77 : decode cX6_readEvent 77 = .ok (.getfield 12, 3) := by decide +kernel
theorem dX6_readEvent_8 : decode cX6_readEvent 8 = .ok (.bipush 6, 2) := by decide +kernel
theorem dX6_readEvent_80 : decode cX6_readEvent 80 = .ok (.getfield 208, 3) := by decide +kernel
theorem dX6_readEvent_83 : decode cX6_readEvent 83 = .ok (.istore 5, 2) := by decide +kernel
theorem dX6_readEvent_85 : decode cX6_readEvent 85 = .ok (.aload_n 0, 1) := by decide +kernel
theorem dX6_readEvent_86 : decode cX6_readEvent 86 = .ok (.getfield 12, 3) := by decide +kernel
theorem dX6_readEvent_89 : decode cX6_readEvent 89 = .ok (.getfield 215, 3) := by decide +kernel
theorem dX6_readEvent_92 : decode cX6_readEvent 92 = .ok (.iload 5, 2) := by decide +kernel
theorem dX6_readEvent_94 : decode cX6_readEvent 94 = .ok (.iload_n 1, 1) := by decide +kernel
theorem dX6_readEvent_95 : decode cX6_readEvent 95 = .ok (.iastore, 1) := by decide +kernel
theorem dX6_readEvent_96 : decode cX6_readEvent 96 = .ok (.aload_n 0, 1) := by decide +kernel
theorem dX6_readEvent_97 : decode cX6_readEvent 97 = .ok (.getfield 12, 3) := by decide +kernel
theorem dX9_homes_0 : decode cX9_homes 0 = .ok (.iconst 0, 1) := by decide +kernel
theorem dX9_homes_1 : decode cX9_homes 1 = .ok (.istore_n 1, 1) := by decide +kernel
theorem dX9_homes_12 : decode cX9_homes 12 = .ok (.iload_n 1, 1) := by decide +kernel
theorem dX9_homes_13 : decode cX9_homes 13 = .ok (.iconst 1, 1) := by decide +kernel
theorem dX9_homes_14 : decode cX9_homes 14 = .ok (.aload_n 0, 1) := by decide +kernel
theorem dX9_homes_15 : decode cX9_homes 15 = .ok (.getfield 21, 3) := by decide +kernel
theorem dX9_homes_18 : decode cX9_homes 18 = .ok (.iload_n 2, 1) := by decide +kernel
theorem dX9_homes_19 : decode cX9_homes 19 = .ok (.iaload, 1) := by decide +kernel
theorem dX9_homes_2 : decode cX9_homes 2 = .ok (.iconst 0, 1) := by decide +kernel
theorem dX9_homes_20 : decode cX9_homes 20 = .ok (.ishl, 1) := by decide +kernel
theorem dX9_homes_21 : decode cX9_homes 21 = .ok (.ior, 1) := by decide +kernel
theorem dX9_homes_22 : decode cX9_homes 22 = .ok (.istore_n 1, 1) := by decide +kernel
theorem dX9_homes_23 : decode cX9_homes 23 = .ok (.iinc 2 1, 3) := by decide +kernel
theorem dX9_homes_26 : decode cX9_homes 26 = .ok (.goto (-22), 3) := by decide +kernel
theorem dX9_homes_29 : decode cX9_homes 29 = .ok (.iload_n 1, 1) := by decide +kernel
theorem dX9_homes_3 : decode cX9_homes 3 = .ok (.istore_n 2, 1) := by decide +kernel
theorem dX9_homes_30 : decode cX9_homes 30 = .ok (.ireturn, 1) := by decide +kernel
theorem dX9_homes_4 : decode cX9_homes 4 = .ok (.iload_n 2, 1) := by decide +kernel
theorem dX9_homes_5 : decode cX9_homes 5 = .ok (.aload_n 0, 1) := by decide +kernel
theorem dX9_homes_6 : decode cX9_homes 6 = .ok (.getfield 62, 3) := by decide +kernel
theorem dX9_homes_9 : decode cX9_homes 9 = .ok (.if_icmp .ge 20, 3) := by decide +kernel
theorem e1_i {D : Dt} {S A : St} {n : Int} (hn : d_e D = n) (h : begT n 6 S = A) : ev1 D S = A := by unfold ev1; rw [hn]; exact h
theorem e3_i {D : Dt} {S S1 S2 A : St} (h1 : ev1 D S = S1) (h2 : numB 0 999 noB S1 = S2) (h3 : mustW w_thing S2 = A) : ev3 D S = A := by unfold ev3; rw [h1, h2]; exact h3
theorem e4_i {D : Dt} {S S3 A : St} {n : Int} (h3 : ev3 D S = S3) (hn : d_n D - 1 = n) (h : numB 0 n noB S3 = A) : ev4 D S = A := by unfold ev4; rw [h3, hn]; exact h
theorem e5_i {D : Dt} {S S4 A : St} (h4 : ev4 D S = S4) (h : lessF S4 = A) : ev5 D S = A := by unfold ev5; rw [h4]; exact h
theorem e6_i {D : Dt} {S S5 A : St} (h5 : ev5 D S = S5) (h : numB 1 9 noB S5 = A) : ev6 D S = A := by unfold ev6; rw [h5]; exact h
set_option maxHeartbeats 4000000 in
set_option maxRecDepth 4000 in
theorem kp_X6_readEvent_18 (l : Launch) (M : Mem) (hJ : Iw M) (hp0 : M 18 6 ≤ M 18 5 ∧ M 18 5 ≤ M 18 4 ∧ M 18 7 ≤ 4 * (M 18 5 - M 18 6)) : CV l yX6_readEvent cX6_readEvent 6 none 9 (fun ad => [.ref (ad 18)]) M (fun M' => Fr [18, 19, 27, 28, 29] M M' ∧ (M' 18 4 = M 18 4 ∧ M' 18 6 ≤ M' 18 5 ∧ M' 18 5 ≤ M' 18 4 ∧ M' 18 7 ≤ 4 * (M' 18 5 - M' 18 6) ∧ M 18 6 ≤ M' 18 6) ∧ (Im (M 18 1 = 0) (tC M' = eventF (absC M, dC M)))) := by
  obtain ⟨hI, hW⟩ := hJ
  have hF : Fr [18, 19, 27, 28, 29] M M := Fr.rf
  refine en_v (by decide +kernel) (fun ad => by exact Nat.le_of_ble_eq_true rfl) (fun D cy ad A p e s m args below meth c Q F hret => ?_)
  refine z_eq (ls' := [(0, .ref (ad 18))]) rfl rfl rfl ?_
  obtain ⟨u1, eu1⟩ : ∃ v : Int, v = M 19 3 := ⟨_, rfl⟩
  have ku1 : 0 ≤ u1 ∧ u1 ≤ 8 := by have := hI.at (show Bd 19 3 = (0, 8) from rfl); omega
  obtain ⟨u2, eu2⟩ : ∃ v : Int, v = M 19 4 := ⟨_, rfl⟩
  have ku2 : 0 ≤ u2 ∧ u2 ≤ 6 := by have := hI.at (show Bd 19 4 = (0, 6) from rfl); omega
  refine z_aload_n F dX6_readEvent_0 rfl (q := 0) rfl ?_
  refine z_aload_n F dX6_readEvent_1 rfl (q := 0) rfl ?_
  refine rf_X6_12 F gs_18 rfl dX6_readEvent_2 ?_
  refine gf_X6_208 F hI gs_19 rfl bd_19_4 dX6_readEvent_5 (fun v3 ev3 av3 bv3 => ?_)
  have zv3 : u2 = v3 := eu2.trans ev3.symm
  subst zv3
  refine z_bipush F dX6_readEvent_8 (by decide +kernel) ?_
  refine zv_v (rest := []) F (kp_X6_beginLine_18 l M ⟨hI, hW⟩ u2 (by omega) (by omega) 6 (by omega) (by omega) (by omega)) cs_X6_166 (T := TX6) (N := 9) (ci := 6) rfl gs_18 (by decide) (by decide) rfl rfl rfl (Nat.le_of_ble_eq_true rfl) dX6_readEvent_10 (fun M4 hI p5 => ?_)
  obtain ⟨hI, hW⟩ := hI
  obtain ⟨fp5, xp5, yp5⟩ := p5
  have hF := hF.call fp5 (by decide)
  have tM4_19_3 : M4 19 3 = M 19 3 := fp5.at (by decide)
  have tM4_19_4 : M4 19 4 = M 19 4 := fp5.at (by decide)
  refine z_aload_n F dX6_readEvent_13 rfl (q := 0) rfl ?_
  refine z_iconst F dX6_readEvent_14 ?_
  refine z_sipush F dX6_readEvent_15 (by decide +kernel) ?_
  refine zv_i (rest := []) F (kp_X6_takeNumber_18 l M4 ⟨hI, hW⟩ 0 (by omega) (by omega) 999 (by omega) (by omega) (by omega)) cs_X6_110 (T := TX6) (N := 9) (ci := 6) rfl gs_18 (by decide) (by decide) rfl rfl rfl (Nat.le_of_ble_eq_true rfl) dX6_readEvent_18 (fun v6 M7 rv6 hI p8 => ?_)
  obtain ⟨hI, hW⟩ := hI
  obtain ⟨⟨av6, bv6⟩, fp8, xp8, yp8⟩ := p8
  have hF := hF.call fp8 (by decide)
  have tM7_19_3 : M7 19 3 = M4 19 3 := fp8.at (by decide)
  have tM7_19_4 : M7 19 4 = M4 19 4 := fp8.at (by decide)
  have hkv6 : -1 ≤ v6 ∧ v6 ≤ 999 := by omega
  refine z_istore_n F dX6_readEvent_21 rfl (by decide) (ls' := [(1, ii v6), (0, .ref (ad 18))]) rfl ?_
  refine z_aload_n F dX6_readEvent_22 rfl (q := 1) rfl ?_
  refine z_ldcS (j := 5) F dX6_readEvent_23 rfl rfl rfl ?_
  refine z_eq (st' := [.ref (ad 1005), .ref (ad 18)]) rfl rfl rfl ?_
  refine zv_v (rest := []) F (kp_X6_needWord_18_1005 l M7 ⟨hI, hW⟩ (by omega)) cs_X6_106 (T := TX6) (N := 9) (ci := 6) rfl gs_18 (by decide) (by decide) rfl rfl rfl (Nat.le_of_ble_eq_true rfl) dX6_readEvent_25 (fun M9 hI p10 => ?_)
  obtain ⟨hI, hW⟩ := hI
  obtain ⟨fp10, xp10, yp10⟩ := p10
  have hF := hF.call fp10 (by decide)
  have tM9_19_3 : M9 19 3 = M7 19 3 := fp10.at (by decide)
  have tM9_19_4 : M9 19 4 = M7 19 4 := fp10.at (by decide)
  refine z_aload_n F dX6_readEvent_28 rfl (q := 1) rfl ?_
  refine z_iconst F dX6_readEvent_29 ?_
  refine z_aload_n F dX6_readEvent_30 rfl (q := 1) rfl ?_
  refine rf_X6_12 F gs_18 rfl dX6_readEvent_31 ?_
  refine gf_X6_181 F hI gs_19 rfl bd_19_3 dX6_readEvent_34 (fun v11 ev11 av11 bv11 => ?_)
  have q12 : u1 = M4 19 3 := eu1.trans ((fp5.at (by decide)) : M4 19 3 = _).symm
  have q13 : u1 = M7 19 3 := q12.trans ((fp8.at (by decide)) : M7 19 3 = _).symm
  have q14 : u1 = M9 19 3 := q13.trans ((fp10.at (by decide)) : M9 19 3 = _).symm
  have zv11 : u1 = v11 := q14.trans ev11.symm
  subst zv11
  refine z_iconst F dX6_readEvent_37 ?_
  refine z_isub F dX6_readEvent_38 ?_
  refine zv_i (rest := []) F (kp_X6_takeNumber_18 l M9 ⟨hI, hW⟩ 0 (by omega) (by omega) (u1 - 1) (by omega) (by omega) (by omega)) cs_X6_110 (T := TX6) (N := 9) (ci := 6) rfl gs_18 (by decide) (by decide) rfl rfl rfl (Nat.le_of_ble_eq_true rfl) dX6_readEvent_39 (fun v15 M16 rv15 hI p17 => ?_)
  obtain ⟨hI, hW⟩ := hI
  obtain ⟨⟨av15, bv15⟩, fp17, xp17, yp17⟩ := p17
  have hF := hF.call fp17 (by decide)
  have tM16_19_3 : M16 19 3 = M9 19 3 := fp17.at (by decide)
  have tM16_19_4 : M16 19 4 = M9 19 4 := fp17.at (by decide)
  have hkv15 : -1 ≤ v15 ∧ v15 ≤ 7 := by omega
  refine z_istore_n F dX6_readEvent_42 rfl (by decide) (ls' := [(2, ii v15), (1, ii v6), (0, .ref (ad 18))]) rfl ?_
  refine z_aload_n F dX6_readEvent_43 rfl (q := 2) rfl ?_
  refine z_ldcS (j := 11) F dX6_readEvent_44 rfl rfl rfl ?_
  refine z_eq (st' := [.ref (ad 1011), .ref (ad 18)]) rfl rfl rfl ?_
  refine zv_i (rest := []) F (kp_X6_takeWord_18_1011 l M16 ⟨hI, hW⟩ (by omega)) cs_X6_144 (T := TX6) (N := 9) (ci := 6) rfl gs_18 (by decide) (by decide) rfl rfl rfl (Nat.le_of_ble_eq_true rfl) dX6_readEvent_46 (fun v18 M19 rv18 hI p20 => ?_)
  obtain ⟨hI, hW⟩ := hI
  obtain ⟨⟨av18, bv18⟩, fp20, xp20, yp20⟩ := p20
  have hF := hF.call fp20 (by decide)
  have tM19_19_3 : M19 19 3 = M16 19 3 := fp20.at (by decide)
  have tM19_19_4 : M19 19 4 = M16 19 4 := fp20.at (by decide)
  refine z_istore_n F dX6_readEvent_49 rfl (by decide) (ls' := [(3, ii v18), (2, ii v15), (1, ii v6), (0, .ref (ad 18))]) rfl ?_
  refine z_iload_n F dX6_readEvent_50 rfl (q := 0) rfl ?_
  refine z_if_ne (tgt := 60) F dX6_readEvent_51 (by decide +kernel) (by omega) (fun c21 => ?_) (fun c21 => ?_)
  · refine z_aload_n F dX6_readEvent_60 rfl (q := 3) rfl ?_
    refine z_iconst F dX6_readEvent_61 ?_
    refine z_bipush F dX6_readEvent_62 (by decide +kernel) ?_
    refine zv_i (rest := []) F (kp_X6_takeNumber_18 l M19 ⟨hI, hW⟩ 1 (by omega) (by omega) 9 (by omega) (by omega) (by omega)) cs_X6_110 (T := TX6) (N := 9) (ci := 6) rfl gs_18 (by decide) (by decide) rfl rfl rfl (Nat.le_of_ble_eq_true rfl) dX6_readEvent_64 (fun v22 M23 rv22 hI p24 => ?_)
    obtain ⟨hI, hW⟩ := hI
    obtain ⟨⟨av22, bv22⟩, fp24, xp24, yp24⟩ := p24
    have hF := hF.call fp24 (by decide)
    have tM23_19_3 : M23 19 3 = M19 19 3 := fp24.at (by decide)
    have tM23_19_4 : M23 19 4 = M19 19 4 := fp24.at (by decide)
    have hkv22 : -1 ≤ v22 ∧ v22 ≤ 9 := by omega
    refine z_istore F dX6_readEvent_67 (by decide) (ls' := [(4, ii v22), (3, ii v18), (2, ii v15), (1, ii v6), (0, .ref (ad 18))]) rfl ?_
    refine z_aload_n F dX6_readEvent_69 rfl (q := 4) rfl ?_
    refine gf_X6_36 F hI gs_18 rfl bd_18_1 dX6_readEvent_70 (fun v25 ev25 av25 bv25 => ?_)
    refine z_if_ne (tgt := 142) F dX6_readEvent_73 (by decide +kernel) (by omega) (fun c26 => ?_) (fun c26 => ?_)
    · have yy27 : Im (M 18 1 = 0) (tC M23 = eventF (absC M, dC M)) := fun h0 => by
        have a1 := e1_i (D := dC M) (S := absC M) (show M 19 4 = u2 from by omega) (yp5 h0)
        have a3 := e3_i a1 yp8.1 yp10
        have a4 := e4_i a3 (show M 19 3 - 1 = (u1 - 1) from by omega) yp17.1
        have w9 := wz_t yp20.1 (by omega)
        have a5 := e5_i a4 (show lessF (absC M16) = absC M19 from less_t w9 (took_a w9 yp20.2))
        have a6 := e6_i a5 yp24.1
        exact event_6 a6 (fun q => by exfalso; have g9 := (vC_fl M23).symm.trans q; omega)
      exact hret _ 142 _ ⟨hI, hW⟩ ⟨hF, (by omega), yy27⟩ dX6_readEvent_142
    · refine z_aload_n F dX6_readEvent_76 rfl (q := 4) rfl ?_
      refine rf_X6_12 F gs_18 rfl dX6_readEvent_77 ?_
      refine gf_X6_208 F hI gs_19 rfl bd_19_4 dX6_readEvent_80 (fun v28 ev28 av28 bv28 => ?_)
      have q29 : u2 = M4 19 4 := eu2.trans ((fp5.at (by decide)) : M4 19 4 = _).symm
      have q30 : u2 = M7 19 4 := q29.trans ((fp8.at (by decide)) : M7 19 4 = _).symm
      have q31 : u2 = M9 19 4 := q30.trans ((fp10.at (by decide)) : M9 19 4 = _).symm
      have q32 : u2 = M16 19 4 := q31.trans ((fp17.at (by decide)) : M16 19 4 = _).symm
      have q33 : u2 = M19 19 4 := q32.trans ((fp20.at (by decide)) : M19 19 4 = _).symm
      have q34 : u2 = M23 19 4 := q33.trans ((fp24.at (by decide)) : M23 19 4 = _).symm
      have zv28 : u2 = v28 := q34.trans ev28.symm
      subst zv28
      have k35 : 0 ≤ u2 ∧ u2 ≤ 5 := by omega
      refine z_istore F dX6_readEvent_83 (by decide) (ls' := [(5, ii u2), (4, ii v22), (3, ii v18), (2, ii v15), (1, ii v6), (0, .ref (ad 18))]) rfl ?_
      refine z_aload_n F dX6_readEvent_85 rfl (q := 5) rfl ?_
      refine rf_X6_12 F gs_18 rfl dX6_readEvent_86 ?_
      refine rf_X6_215 F gs_19 rfl dX6_readEvent_89 ?_
      refine z_iload F dX6_readEvent_92 (q := 0) rfl ?_
      refine z_iload_n F dX6_readEvent_94 rfl (q := 4) rfl ?_
      refine z_iast F hI gs_27 (by omega) (by omega) (by decide) bd_27 dX6_readEvent_95 (by omega) (by omega) (fun M37 hI sf36 f36 => ?_)
      have tM37_18_1 : M37 18 1 = M23 18 1 := f36 18 1 (fun q => absurd q.1 (by decide))
      have tM37_18_4 : M37 18 4 = M23 18 4 := f36 18 4 (fun q => absurd q.1 (by decide))
      have tM37_18_5 : M37 18 5 = M23 18 5 := f36 18 5 (fun q => absurd q.1 (by decide))
      have tM37_18_6 : M37 18 6 = M23 18 6 := f36 18 6 (fun q => absurd q.1 (by decide))
      have tM37_18_7 : M37 18 7 = M23 18 7 := f36 18 7 (fun q => absurd q.1 (by decide))
      have tM37_19_3 : M37 19 3 = M23 19 3 := f36 19 3 (fun q => absurd q.1 (by decide))
      have tM37_19_4 : M37 19 4 = M23 19 4 := f36 19 4 (fun q => absurd q.1 (by decide))
      have hF := hF.wr f36 (by decide) (by decide)
      have hW : WFk M37 := hW.site f36 (by decide)
      refine z_aload_n F dX6_readEvent_96 rfl (q := 5) rfl ?_
      refine rf_X6_12 F gs_18 rfl dX6_readEvent_97 ?_
      refine rf_X6_218 F gs_19 rfl dX6_readEvent_100 ?_
      refine z_iload F dX6_readEvent_103 (q := 0) rfl ?_
      refine z_iload_n F dX6_readEvent_105 rfl (q := 3) rfl ?_
      have k38 : 0 ≤ v15 ∧ v15 ≤ 7 := by omega
      refine z_iast F hI gs_28 (by omega) (by omega) (by decide) bd_28 dX6_readEvent_106 (by omega) (by omega) (fun M40 hI sf39 f39 => ?_)
      have tM40_18_1 : M40 18 1 = M37 18 1 := f39 18 1 (fun q => absurd q.1 (by decide))
      have tM40_18_4 : M40 18 4 = M37 18 4 := f39 18 4 (fun q => absurd q.1 (by decide))
      have tM40_18_5 : M40 18 5 = M37 18 5 := f39 18 5 (fun q => absurd q.1 (by decide))
      have tM40_18_6 : M40 18 6 = M37 18 6 := f39 18 6 (fun q => absurd q.1 (by decide))
      have tM40_18_7 : M40 18 7 = M37 18 7 := f39 18 7 (fun q => absurd q.1 (by decide))
      have tM40_19_3 : M40 19 3 = M37 19 3 := f39 19 3 (fun q => absurd q.1 (by decide))
      have tM40_19_4 : M40 19 4 = M37 19 4 := f39 19 4 (fun q => absurd q.1 (by decide))
      have hF := hF.wr f39 (by decide) (by decide)
      have hW : WFk M40 := hW.site f39 (by decide)
      refine z_aload_n F dX6_readEvent_107 rfl (q := 5) rfl ?_
      refine rf_X6_12 F gs_18 rfl dX6_readEvent_108 ?_
      refine rf_X6_221 F gs_19 rfl dX6_readEvent_111 ?_
      refine z_iload F dX6_readEvent_114 (q := 0) rfl ?_
      refine z_iload_n F dX6_readEvent_116 rfl (q := 2) rfl ?_
      refine z_if_eq (tgt := 126) F dX6_readEvent_117 (by decide +kernel) (by omega) (fun c41 => by exfalso; omega) (fun c41 => ?_)
      refine z_iload F dX6_readEvent_120 (q := 1) rfl ?_
      refine z_ineg F dX6_readEvent_122 ?_
      refine z_goto (tgt := 128) F dX6_readEvent_123 (by decide +kernel) ?_
      refine z_nm (fun v43 ev43 => ?_)
      refine z_iast F hI gs_29 (by omega) (by omega) (by decide) bd_29 dX6_readEvent_128 (by omega) (by omega) (fun M44 hI sf42 f42 => ?_)
      have tM44_18_1 : M44 18 1 = M40 18 1 := f42 18 1 (fun q => absurd q.1 (by decide))
      have tM44_18_4 : M44 18 4 = M40 18 4 := f42 18 4 (fun q => absurd q.1 (by decide))
      have tM44_18_5 : M44 18 5 = M40 18 5 := f42 18 5 (fun q => absurd q.1 (by decide))
      have tM44_18_6 : M44 18 6 = M40 18 6 := f42 18 6 (fun q => absurd q.1 (by decide))
      have tM44_18_7 : M44 18 7 = M40 18 7 := f42 18 7 (fun q => absurd q.1 (by decide))
      have tM44_19_3 : M44 19 3 = M40 19 3 := f42 19 3 (fun q => absurd q.1 (by decide))
      have tM44_19_4 : M44 19 4 = M40 19 4 := f42 19 4 (fun q => absurd q.1 (by decide))
      have hF := hF.wr f42 (by decide) (by decide)
      have hW : WFk M44 := hW.site f42 (by decide)
      refine z_aload_n F dX6_readEvent_129 rfl (q := 5) rfl ?_
      refine rf_X6_12 F gs_18 rfl dX6_readEvent_130 ?_
      refine z_dup F dX6_readEvent_133 rfl ?_
      refine gf_X6_208 F hI gs_19 rfl bd_19_4 dX6_readEvent_134 (fun v45 ev45 av45 bv45 => ?_)
      have q46 : u2 = M37 19 4 := q34.trans (f36 19 4 (fun q => absurd q.1 (by decide))).symm
      have q47 : u2 = M40 19 4 := q46.trans (f39 19 4 (fun q => absurd q.1 (by decide))).symm
      have q48 : u2 = M44 19 4 := q47.trans (f42 19 4 (fun q => absurd q.1 (by decide))).symm
      have zv45 : u2 = v45 := q48.trans ev45.symm
      subst zv45
      refine z_iconst F dX6_readEvent_137 ?_
      refine z_iadd F dX6_readEvent_138 ?_
      refine z_nm (fun v49 ev49 => ?_)
      refine pf_X6_208 F hI gs_19 rfl bd_19_4 rfl rfl dX6_readEvent_139 (by omega) (by omega) (fun M51 hI sf50 f50 => ?_)
      have tM51_18_1 : M51 18 1 = M44 18 1 := f50 18 1 (fun q => absurd q.1 (by decide))
      have tM51_18_4 : M51 18 4 = M44 18 4 := f50 18 4 (fun q => absurd q.1 (by decide))
      have tM51_18_5 : M51 18 5 = M44 18 5 := f50 18 5 (fun q => absurd q.1 (by decide))
      have tM51_18_6 : M51 18 6 = M44 18 6 := f50 18 6 (fun q => absurd q.1 (by decide))
      have tM51_18_7 : M51 18 7 = M44 18 7 := f50 18 7 (fun q => absurd q.1 (by decide))
      have tM51_19_3 : M51 19 3 = M44 19 3 := f50 19 3 (fun q => absurd q.2 (by decide))
      have hF := hF.wr f50 (by decide) (by decide)
      have hW : WFk M51 := hW.site f50 (by decide)
      have yy52 : Im (M 18 1 = 0) (tC M51 = eventF (absC M, dC M)) := fun h0 => by
        have a1 := e1_i (D := dC M) (S := absC M) (show M 19 4 = u2 from by omega) (yp5 h0)
        have a3 := e3_i a1 yp8.1 yp10
        have a4 := e4_i a3 (show M 19 3 - 1 = (u1 - 1) from by omega) yp17.1
        have w9 := wz_t yp20.1 (by omega)
        have a5 := e5_i a4 (show lessF (absC M16) = absC M19 from less_t w9 (took_a w9 yp20.2))
        have a6 := e6_i a5 yp24.1
        have m9 := yp8.2 (show M7 18 1 = 0 by omega)
        have t9 := yp17.2 (show M16 18 1 = 0 by omega)
        have b9 := yp24.2 (show M23 18 1 = 0 by omega)
        have dd : dC M51 = addE (dC M23) v6 v15 v43 := dC_event (n := u2) (by omega) (by omega) (((f50 27 (u2).toNat (fun q => absurd q.1 (by decide))).trans ((f42 27 (u2).toNat (fun q => absurd q.1 (by decide))).trans (f39 27 (u2).toNat (fun q => absurd q.1 (by decide))))).trans sf36) (((f50 28 (u2).toNat (fun q => absurd q.1 (by decide))).trans (f42 28 (u2).toNat (fun q => absurd q.1 (by decide)))).trans sf39) ((f50 29 (u2).toNat (fun q => absurd q.1 (by decide))).trans sf42) (show M51 19 4 = u2 + 1 from by omega) (fun a j r1 r2 => ((f50 a j (fun q => by have h8 := q.1; have h9 := q.2; omega)).trans ((f42 a j (fun q => by have h8 := q.1; have h9 := q.2; omega)).trans ((f39 a j (fun q => by have h8 := q.1; have h9 := q.2; omega)).trans (f36 a j (fun q => by have h8 := q.1; have h9 := q.2; omega)))))) (fun b r1 => ((f50 19 b (fun q => by have := q.2; omega)).trans ((f42 19 b (fun q => absurd q.1 (by decide))).trans ((f39 19 b (fun q => absurd q.1 (by decide))).trans (f36 19 b (fun q => absurd q.1 (by decide))))))) (fun a j r1 => ((f50 a j (fun q => by have h8 := q.1; have h9 := q.2; omega)).trans ((f42 a j (fun q => by have h8 := q.1; have h9 := q.2; omega)).trans ((f39 a j (fun q => by have h8 := q.1; have h9 := q.2; omega)).trans (f36 a j (fun q => by have h8 := q.1; have h9 := q.2; omega))))))
        exact event_6 (a6.trans (absC_eq (fun j => ((f50 18 j (fun q => absurd q.1 (by decide))).trans ((f42 18 j (fun q => absurd q.1 (by decide))).trans ((f39 18 j (fun q => absurd q.1 (by decide))).trans (f36 18 j (fun q => absurd q.1 (by decide))))))) (fun j => ((f50 1 j (fun q => absurd q.1 (by decide))).trans ((f42 1 j (fun q => absurd q.1 (by decide))).trans ((f39 1 j (fun q => absurd q.1 (by decide))).trans (f36 1 j (fun q => absurd q.1 (by decide))))))) : absC M51 = absC M23).symm) (fun _ => by rw [dd, ((show dC M23 = dC M19 from dC_fr fp24 (by decide)).trans ((show dC M19 = dC M16 from dC_fr fp20 (by decide)).trans ((show dC M16 = dC M9 from dC_fr fp17 (by decide)).trans ((show dC M9 = dC M7 from dC_fr fp10 (by decide)).trans ((show dC M7 = dC M4 from dC_fr fp8 (by decide)).trans (show dC M4 = dC M from dC_fr fp5 (by decide))))))), a1, a3, a4, a5, if_pos w9, ← m9, ← t9, ← b9, show v43 = -v22 from by omega])
      exact hret _ 142 _ ⟨hI, hW⟩ ⟨hF, (by omega), yy52⟩ dX6_readEvent_142
  · refine z_aload_n F dX6_readEvent_54 rfl (q := 3) rfl ?_
    refine z_ldcS (j := 12) F dX6_readEvent_55 rfl rfl rfl ?_
    refine z_eq (st' := [.ref (ad 1012), .ref (ad 18)]) rfl rfl rfl ?_
    refine zv_v (rest := []) F (kp_X6_needWord_18_1012 l M19 ⟨hI, hW⟩ (by omega)) cs_X6_106 (T := TX6) (N := 9) (ci := 6) rfl gs_18 (by decide) (by decide) rfl rfl rfl (Nat.le_of_ble_eq_true rfl) dX6_readEvent_57 (fun M53 hI p54 => ?_)
    obtain ⟨hI, hW⟩ := hI
    obtain ⟨fp54, xp54, yp54⟩ := p54
    have hF := hF.call fp54 (by decide)
    have tM53_19_3 : M53 19 3 = M19 19 3 := fp54.at (by decide)
    have tM53_19_4 : M53 19 4 = M19 19 4 := fp54.at (by decide)
    refine z_aload_n F dX6_readEvent_60 rfl (q := 3) rfl ?_
    refine z_iconst F dX6_readEvent_61 ?_
    refine z_bipush F dX6_readEvent_62 (by decide +kernel) ?_
    refine zv_i (rest := []) F (kp_X6_takeNumber_18 l M53 ⟨hI, hW⟩ 1 (by omega) (by omega) 9 (by omega) (by omega) (by omega)) cs_X6_110 (T := TX6) (N := 9) (ci := 6) rfl gs_18 (by decide) (by decide) rfl rfl rfl (Nat.le_of_ble_eq_true rfl) dX6_readEvent_64 (fun v55 M56 rv55 hI p57 => ?_)
    obtain ⟨hI, hW⟩ := hI
    obtain ⟨⟨av55, bv55⟩, fp57, xp57, yp57⟩ := p57
    have hF := hF.call fp57 (by decide)
    have tM56_19_3 : M56 19 3 = M53 19 3 := fp57.at (by decide)
    have tM56_19_4 : M56 19 4 = M53 19 4 := fp57.at (by decide)
    have hkv55 : -1 ≤ v55 ∧ v55 ≤ 9 := by omega
    refine z_istore F dX6_readEvent_67 (by decide) (ls' := [(4, ii v55), (3, ii v18), (2, ii v15), (1, ii v6), (0, .ref (ad 18))]) rfl ?_
    refine z_aload_n F dX6_readEvent_69 rfl (q := 4) rfl ?_
    refine gf_X6_36 F hI gs_18 rfl bd_18_1 dX6_readEvent_70 (fun v58 ev58 av58 bv58 => ?_)
    refine z_if_ne (tgt := 142) F dX6_readEvent_73 (by decide +kernel) (by omega) (fun c59 => ?_) (fun c59 => ?_)
    · have yy60 : Im (M 18 1 = 0) (tC M56 = eventF (absC M, dC M)) := fun h0 => by
        have a1 := e1_i (D := dC M) (S := absC M) (show M 19 4 = u2 from by omega) (yp5 h0)
        have a3 := e3_i a1 yp8.1 yp10
        have a4 := e4_i a3 (show M 19 3 - 1 = (u1 - 1) from by omega) yp17.1
        have w9 := wz_f yp20.1 (by omega)
        have a5 := e5_i a4 (show lessF (absC M16) = absC M53 from less_n w9 (by rw [← took_e w9 yp20.2]; exact yp54))
        have a6 := e6_i a5 yp57.1
        exact event_6 a6 (fun q => by exfalso; have g9 := (vC_fl M56).symm.trans q; omega)
      exact hret _ 142 _ ⟨hI, hW⟩ ⟨hF, (by omega), yy60⟩ dX6_readEvent_142
    · refine z_aload_n F dX6_readEvent_76 rfl (q := 4) rfl ?_
      refine rf_X6_12 F gs_18 rfl dX6_readEvent_77 ?_
      refine gf_X6_208 F hI gs_19 rfl bd_19_4 dX6_readEvent_80 (fun v61 ev61 av61 bv61 => ?_)
      have q62 : u2 = M4 19 4 := eu2.trans ((fp5.at (by decide)) : M4 19 4 = _).symm
      have q63 : u2 = M7 19 4 := q62.trans ((fp8.at (by decide)) : M7 19 4 = _).symm
      have q64 : u2 = M9 19 4 := q63.trans ((fp10.at (by decide)) : M9 19 4 = _).symm
      have q65 : u2 = M16 19 4 := q64.trans ((fp17.at (by decide)) : M16 19 4 = _).symm
      have q66 : u2 = M19 19 4 := q65.trans ((fp20.at (by decide)) : M19 19 4 = _).symm
      have q67 : u2 = M53 19 4 := q66.trans ((fp54.at (by decide)) : M53 19 4 = _).symm
      have q68 : u2 = M56 19 4 := q67.trans ((fp57.at (by decide)) : M56 19 4 = _).symm
      have zv61 : u2 = v61 := q68.trans ev61.symm
      subst zv61
      have k69 : 0 ≤ u2 ∧ u2 ≤ 5 := by omega
      refine z_istore F dX6_readEvent_83 (by decide) (ls' := [(5, ii u2), (4, ii v55), (3, ii v18), (2, ii v15), (1, ii v6), (0, .ref (ad 18))]) rfl ?_
      refine z_aload_n F dX6_readEvent_85 rfl (q := 5) rfl ?_
      refine rf_X6_12 F gs_18 rfl dX6_readEvent_86 ?_
      refine rf_X6_215 F gs_19 rfl dX6_readEvent_89 ?_
      refine z_iload F dX6_readEvent_92 (q := 0) rfl ?_
      refine z_iload_n F dX6_readEvent_94 rfl (q := 4) rfl ?_
      refine z_iast F hI gs_27 (by omega) (by omega) (by decide) bd_27 dX6_readEvent_95 (by omega) (by omega) (fun M71 hI sf70 f70 => ?_)
      have tM71_18_1 : M71 18 1 = M56 18 1 := f70 18 1 (fun q => absurd q.1 (by decide))
      have tM71_18_4 : M71 18 4 = M56 18 4 := f70 18 4 (fun q => absurd q.1 (by decide))
      have tM71_18_5 : M71 18 5 = M56 18 5 := f70 18 5 (fun q => absurd q.1 (by decide))
      have tM71_18_6 : M71 18 6 = M56 18 6 := f70 18 6 (fun q => absurd q.1 (by decide))
      have tM71_18_7 : M71 18 7 = M56 18 7 := f70 18 7 (fun q => absurd q.1 (by decide))
      have tM71_19_3 : M71 19 3 = M56 19 3 := f70 19 3 (fun q => absurd q.1 (by decide))
      have tM71_19_4 : M71 19 4 = M56 19 4 := f70 19 4 (fun q => absurd q.1 (by decide))
      have hF := hF.wr f70 (by decide) (by decide)
      have hW : WFk M71 := hW.site f70 (by decide)
      refine z_aload_n F dX6_readEvent_96 rfl (q := 5) rfl ?_
      refine rf_X6_12 F gs_18 rfl dX6_readEvent_97 ?_
      refine rf_X6_218 F gs_19 rfl dX6_readEvent_100 ?_
      refine z_iload F dX6_readEvent_103 (q := 0) rfl ?_
      refine z_iload_n F dX6_readEvent_105 rfl (q := 3) rfl ?_
      have k72 : 0 ≤ v15 ∧ v15 ≤ 7 := by omega
      refine z_iast F hI gs_28 (by omega) (by omega) (by decide) bd_28 dX6_readEvent_106 (by omega) (by omega) (fun M74 hI sf73 f73 => ?_)
      have tM74_18_1 : M74 18 1 = M71 18 1 := f73 18 1 (fun q => absurd q.1 (by decide))
      have tM74_18_4 : M74 18 4 = M71 18 4 := f73 18 4 (fun q => absurd q.1 (by decide))
      have tM74_18_5 : M74 18 5 = M71 18 5 := f73 18 5 (fun q => absurd q.1 (by decide))
      have tM74_18_6 : M74 18 6 = M71 18 6 := f73 18 6 (fun q => absurd q.1 (by decide))
      have tM74_18_7 : M74 18 7 = M71 18 7 := f73 18 7 (fun q => absurd q.1 (by decide))
      have tM74_19_3 : M74 19 3 = M71 19 3 := f73 19 3 (fun q => absurd q.1 (by decide))
      have tM74_19_4 : M74 19 4 = M71 19 4 := f73 19 4 (fun q => absurd q.1 (by decide))
      have hF := hF.wr f73 (by decide) (by decide)
      have hW : WFk M74 := hW.site f73 (by decide)
      refine z_aload_n F dX6_readEvent_107 rfl (q := 5) rfl ?_
      refine rf_X6_12 F gs_18 rfl dX6_readEvent_108 ?_
      refine rf_X6_221 F gs_19 rfl dX6_readEvent_111 ?_
      refine z_iload F dX6_readEvent_114 (q := 0) rfl ?_
      refine z_iload_n F dX6_readEvent_116 rfl (q := 2) rfl ?_
      refine z_if_eq (tgt := 126) F dX6_readEvent_117 (by decide +kernel) (by omega) (fun c75 => ?_) (fun c75 => by exfalso; omega)
      refine z_iload F dX6_readEvent_126 (q := 1) rfl ?_
      refine z_iast F hI gs_29 (by omega) (by omega) (by decide) bd_29 dX6_readEvent_128 (by omega) (by omega) (fun M77 hI sf76 f76 => ?_)
      have tM77_18_1 : M77 18 1 = M74 18 1 := f76 18 1 (fun q => absurd q.1 (by decide))
      have tM77_18_4 : M77 18 4 = M74 18 4 := f76 18 4 (fun q => absurd q.1 (by decide))
      have tM77_18_5 : M77 18 5 = M74 18 5 := f76 18 5 (fun q => absurd q.1 (by decide))
      have tM77_18_6 : M77 18 6 = M74 18 6 := f76 18 6 (fun q => absurd q.1 (by decide))
      have tM77_18_7 : M77 18 7 = M74 18 7 := f76 18 7 (fun q => absurd q.1 (by decide))
      have tM77_19_3 : M77 19 3 = M74 19 3 := f76 19 3 (fun q => absurd q.1 (by decide))
      have tM77_19_4 : M77 19 4 = M74 19 4 := f76 19 4 (fun q => absurd q.1 (by decide))
      have hF := hF.wr f76 (by decide) (by decide)
      have hW : WFk M77 := hW.site f76 (by decide)
      refine z_aload_n F dX6_readEvent_129 rfl (q := 5) rfl ?_
      refine rf_X6_12 F gs_18 rfl dX6_readEvent_130 ?_
      refine z_dup F dX6_readEvent_133 rfl ?_
      refine gf_X6_208 F hI gs_19 rfl bd_19_4 dX6_readEvent_134 (fun v78 ev78 av78 bv78 => ?_)
      have q79 : u2 = M71 19 4 := q68.trans (f70 19 4 (fun q => absurd q.1 (by decide))).symm
      have q80 : u2 = M74 19 4 := q79.trans (f73 19 4 (fun q => absurd q.1 (by decide))).symm
      have q81 : u2 = M77 19 4 := q80.trans (f76 19 4 (fun q => absurd q.1 (by decide))).symm
      have zv78 : u2 = v78 := q81.trans ev78.symm
      subst zv78
      refine z_iconst F dX6_readEvent_137 ?_
      refine z_iadd F dX6_readEvent_138 ?_
      refine z_nm (fun v82 ev82 => ?_)
      refine pf_X6_208 F hI gs_19 rfl bd_19_4 rfl rfl dX6_readEvent_139 (by omega) (by omega) (fun M84 hI sf83 f83 => ?_)
      have tM84_18_1 : M84 18 1 = M77 18 1 := f83 18 1 (fun q => absurd q.1 (by decide))
      have tM84_18_4 : M84 18 4 = M77 18 4 := f83 18 4 (fun q => absurd q.1 (by decide))
      have tM84_18_5 : M84 18 5 = M77 18 5 := f83 18 5 (fun q => absurd q.1 (by decide))
      have tM84_18_6 : M84 18 6 = M77 18 6 := f83 18 6 (fun q => absurd q.1 (by decide))
      have tM84_18_7 : M84 18 7 = M77 18 7 := f83 18 7 (fun q => absurd q.1 (by decide))
      have tM84_19_3 : M84 19 3 = M77 19 3 := f83 19 3 (fun q => absurd q.2 (by decide))
      have hF := hF.wr f83 (by decide) (by decide)
      have hW : WFk M84 := hW.site f83 (by decide)
      have yy85 : Im (M 18 1 = 0) (tC M84 = eventF (absC M, dC M)) := fun h0 => by
        have a1 := e1_i (D := dC M) (S := absC M) (show M 19 4 = u2 from by omega) (yp5 h0)
        have a3 := e3_i a1 yp8.1 yp10
        have a4 := e4_i a3 (show M 19 3 - 1 = (u1 - 1) from by omega) yp17.1
        have w9 := wz_f yp20.1 (by omega)
        have a5 := e5_i a4 (show lessF (absC M16) = absC M53 from less_n w9 (by rw [← took_e w9 yp20.2]; exact yp54))
        have a6 := e6_i a5 yp57.1
        have m9 := yp8.2 (show M7 18 1 = 0 by omega)
        have t9 := yp17.2 (show M16 18 1 = 0 by omega)
        have b9 := yp57.2 (show M56 18 1 = 0 by omega)
        have dd : dC M84 = addE (dC M56) v6 v15 v55 := dC_event (n := u2) (by omega) (by omega) (((f83 27 (u2).toNat (fun q => absurd q.1 (by decide))).trans ((f76 27 (u2).toNat (fun q => absurd q.1 (by decide))).trans (f73 27 (u2).toNat (fun q => absurd q.1 (by decide))))).trans sf70) (((f83 28 (u2).toNat (fun q => absurd q.1 (by decide))).trans (f76 28 (u2).toNat (fun q => absurd q.1 (by decide)))).trans sf73) ((f83 29 (u2).toNat (fun q => absurd q.1 (by decide))).trans sf76) (show M84 19 4 = u2 + 1 from by omega) (fun a j r1 r2 => ((f83 a j (fun q => by have h8 := q.1; have h9 := q.2; omega)).trans ((f76 a j (fun q => by have h8 := q.1; have h9 := q.2; omega)).trans ((f73 a j (fun q => by have h8 := q.1; have h9 := q.2; omega)).trans (f70 a j (fun q => by have h8 := q.1; have h9 := q.2; omega)))))) (fun b r1 => ((f83 19 b (fun q => by have := q.2; omega)).trans ((f76 19 b (fun q => absurd q.1 (by decide))).trans ((f73 19 b (fun q => absurd q.1 (by decide))).trans (f70 19 b (fun q => absurd q.1 (by decide))))))) (fun a j r1 => ((f83 a j (fun q => by have h8 := q.1; have h9 := q.2; omega)).trans ((f76 a j (fun q => by have h8 := q.1; have h9 := q.2; omega)).trans ((f73 a j (fun q => by have h8 := q.1; have h9 := q.2; omega)).trans (f70 a j (fun q => by have h8 := q.1; have h9 := q.2; omega))))))
        exact event_6 (a6.trans (absC_eq (fun j => ((f83 18 j (fun q => absurd q.1 (by decide))).trans ((f76 18 j (fun q => absurd q.1 (by decide))).trans ((f73 18 j (fun q => absurd q.1 (by decide))).trans (f70 18 j (fun q => absurd q.1 (by decide))))))) (fun j => ((f83 1 j (fun q => absurd q.1 (by decide))).trans ((f76 1 j (fun q => absurd q.1 (by decide))).trans ((f73 1 j (fun q => absurd q.1 (by decide))).trans (f70 1 j (fun q => absurd q.1 (by decide))))))) : absC M84 = absC M56).symm) (fun _ => by rw [dd, ((show dC M56 = dC M53 from dC_fr fp57 (by decide)).trans ((show dC M53 = dC M19 from dC_fr fp54 (by decide)).trans ((show dC M19 = dC M16 from dC_fr fp20 (by decide)).trans ((show dC M16 = dC M9 from dC_fr fp17 (by decide)).trans ((show dC M9 = dC M7 from dC_fr fp10 (by decide)).trans ((show dC M7 = dC M4 from dC_fr fp8 (by decide)).trans (show dC M4 = dC M from dC_fr fp5 (by decide)))))))), a1, a3, a4, a5, if_neg (by rw [w9]; decide), ← m9, ← t9, ← b9, show v55 = v55 from by omega])
      exact hret _ 142 _ ⟨hI, hW⟩ ⟨hF, (by omega), yy85⟩ dX6_readEvent_142
set_option maxRecDepth 4000 in
theorem k_X9_homes_19 (l : Launch) (M : Mem) (hJ : Iw M) : CI l yX9_homes cX9_homes 3 (some .int) 1 (fun ad => [.ref (ad 19)]) M (fun z M' => (0 ≤ z ∧ z ≤ 1023) ∧ M = M' ∧ (∀ v : Int, 0 ≤ v → v ≤ 9 → btB z v = hasN (M 19 3) (fun t => M 23 t) v)) := by
  obtain ⟨hI, hW⟩ := hJ
  refine en_i (by decide +kernel) (fun ad => by exact Nat.le_of_ble_eq_true rfl) (fun D cy ad A p e s m args below meth c Q F hret => ?_)
  refine z_eq (ls' := [(0, .ref (ad 19))]) rfl rfl rfl ?_
  obtain ⟨u1, eu1⟩ : ∃ v : Int, v = M 19 3 := ⟨_, rfl⟩
  have ku1 : 0 ≤ u1 ∧ u1 ≤ 8 := by have := hI.at (show Bd 19 3 = (0, 8) from rfl); omega
  refine z_iconst F dX9_homes_0 ?_
  refine z_istore_n F dX9_homes_1 rfl (by decide) (ls' := [(1, ii 0), (0, .ref (ad 19))]) rfl ?_
  refine z_iconst F dX9_homes_2 ?_
  refine z_istore_n F dX9_homes_3 rfl (by decide) (ls' := [(2, ii 0), (1, ii 0), (0, .ref (ad 19))]) rfl ?_
  refine z_loc [2, 1, 0] (ls' := [(0, .ref (ad 19)), (1, ii 0), (2, ii 0)]) rfl ?_
  suffices key4 : ∀ (n : Nat) (y3 : Int) (y4 : Int), 0 ≤ y3 → y3 ≤ 1023 → 0 ≤ y4 → y4 ≤ 8 → (∀ v : Int, 0 ≤ v → v ≤ 9 → btB y3 v = hasN y4 (fun t => M 23 t) v) → (y4 ≤ M 19 3) → 8 - y4 < (n : Int) → Z D cy ad p l e (RMh 1) s m args below meth c A 3 0 0 Q 4 [(0, .ref (ad 19)), (1, ii y3), (2, ii y4)] [] M from key4 9 0 0 (by omega) (by omega) (by omega) (by omega) (fun v a b => by rw [btB_0, hasN_0 (by omega)]; rfl) (by omega) (by omega)
  intro n4
  induction n4 with
  | zero => intro y3 y4 ay3 by3 ay4 by4 i4_0 i4_1 hn4; exfalso; omega
  | succ n4 ih4 =>
    intro y3 y4 ay3 by3 ay4 by4 i4_0 i4_1 hn4
    refine z_iload_n F dX9_homes_4 rfl (q := 2) rfl ?_
    refine z_aload_n F dX9_homes_5 rfl (q := 0) rfl ?_
    refine gf_X9_62 F hI gs_19 rfl bd_19_3 dX9_homes_6 (fun v5 ev5 av5 bv5 => ?_)
    have zv5 : u1 = v5 := eu1.trans ev5.symm
    subst zv5
    refine z_icmp_ge (tgt := 29) F dX9_homes_9 (by decide +kernel) (by omega) (by omega) (fun c6 => ?_) (fun c6 => ?_)
    · refine z_iload_n F dX9_homes_29 rfl (q := 1) rfl ?_
      exact hret _ _ 30 _ (by omega) ⟨hI, hW⟩ ⟨⟨by omega, by omega⟩, rfl, (fun v a b => by have h9 := i4_0 v a b; rw [show y4 = M 19 3 from by omega] at h9; exact h9)⟩ dX9_homes_30
    · refine z_iload_n F dX9_homes_12 rfl (q := 1) rfl ?_
      refine z_iconst F dX9_homes_13 ?_
      refine z_aload_n F dX9_homes_14 rfl (q := 0) rfl ?_
      refine rf_X9_21 F gs_19 rfl dX9_homes_15 ?_
      refine z_iload_n F dX9_homes_18 rfl (q := 2) rfl ?_
      refine z_iald F hI gs_23 (by omega) (by omega) (by decide) bd_23 dX9_homes_19 (fun v7 (ev7 : v7 = M 23 _) av7 bv7 => ?_)
      refine z_shl1 (k := 9) F dX9_homes_20 (by decide) (by omega) (by omega) (fun v8 ev8 av8 bv8 => ?_)
      refine z_ior_e (k := 10) F dX9_homes_21 (by decide) (by omega) (by omega) (by omega) (by omega) (fun v9 ev9 av9 bv9 => ?_)
      refine z_istore_n F dX9_homes_22 rfl (by decide) (ls' := [(1, ii v9), (0, .ref (ad 19)), (2, ii y4)]) rfl ?_
      refine z_iincN F dX9_homes_23 (q := 2) rfl (by decide) (fun v10 ev10 => ?_)
      refine z_eq (ls' := [(2, ii v10), (1, ii v9), (0, .ref (ad 19))]) rfl rfl rfl ?_
      refine z_goto (tgt := 4) F dX9_homes_26 (by decide +kernel) ?_
      refine z_loc [2, 1, 0] (ls' := [(0, .ref (ad 19)), (1, ii v9), (2, ii v10)]) rfl ?_
      exact ih4 v9 v10 (by omega) (by omega) (by omega) (by omega) (fun v a b => by rw [btB_or (by omega) (by omega) (by omega) (by omega) ev8 ev9, i4_0 v a b]; exact (congrFun (hasN_s (n := y4) (by omega) (by omega) (fun t ht => rfl) ev7.symm) v).symm) (by omega) (by omega)
set_option maxHeartbeats 4000000 in
set_option maxRecDepth 4000 in
theorem kp_X6_isWord_18_1006 (l : Launch) (M : Mem) (hJ : Iw M) (hp0 : M 18 6 ≤ M 18 5 ∧ M 18 5 ≤ M 18 4 ∧ M 18 7 ≤ 4 * (M 18 5 - M 18 6)) : CI l yX6_isWord cX6_isWord 3 (some .boolean) 5 (fun ad => [.ref (ad 18), .ref (ad 1006)]) M (fun z M' => (0 ≤ z ∧ z ≤ 1) ∧ M = M' ∧ (M 18 6 + z ≤ M 18 5 ∧ (z = 1 → M 18 1 = 0)) ∧ (WZ z (isW w_count (absC M)))) := by
  obtain ⟨hI, hW⟩ := hJ
  refine en_z (by decide +kernel) (fun ad => by exact Nat.le_of_ble_eq_true rfl) (fun D cy ad A p e s m args below meth c Q F hret => ?_)
  refine z_eq (ls' := [(0, .ref (ad 18)), (1, .ref (ad 1006))]) rfl rfl rfl ?_
  obtain ⟨u1, eu1⟩ : ∃ v : Int, v = M 18 1 := ⟨_, rfl⟩
  have ku1 : (-2147483648) ≤ u1 ∧ u1 ≤ 2147483647 := by have := hI.at (show Bd 18 1 = (-2147483648, 2147483647) from rfl); omega
  obtain ⟨u2, eu2⟩ : ∃ v : Int, v = M 18 2 := ⟨_, rfl⟩
  have ku2 : (-2147483648) ≤ u2 ∧ u2 ≤ 2147483647 := by have := hI.at (show Bd 18 2 = (-2147483648, 2147483647) from rfl); omega
  obtain ⟨u3, eu3⟩ : ∃ v : Int, v = M 18 4 := ⟨_, rfl⟩
  have ku3 : 0 ≤ u3 ∧ u3 ≤ 900 := by have := hI.at (show Bd 18 4 = (0, 900) from rfl); omega
  obtain ⟨u4, eu4⟩ : ∃ v : Int, v = M 18 5 := ⟨_, rfl⟩
  have ku4 : 0 ≤ u4 ∧ u4 ≤ 900 := by have := hI.at (show Bd 18 5 = (0, 900) from rfl); omega
  obtain ⟨u5, eu5⟩ : ∃ v : Int, v = M 18 6 := ⟨_, rfl⟩
  have ku5 : 0 ≤ u5 ∧ u5 ≤ 900 := by have := hI.at (show Bd 18 6 = (0, 900) from rfl); omega
  obtain ⟨u6, eu6⟩ : ∃ v : Int, v = M 18 7 := ⟨_, rfl⟩
  have ku6 : 0 ≤ u6 ∧ u6 ≤ 4 := by have := hI.at (show Bd 18 7 = (0, 4) from rfl); omega
  obtain ⟨u7, eu7⟩ : ∃ v : Int, v = M 18 8 := ⟨_, rfl⟩
  have ku7 : (-2147483648) ≤ u7 ∧ u7 ≤ 2147483647 := by have := hI.at (show Bd 18 8 = (-2147483648, 2147483647) from rfl); omega
  refine z_aload_n F dX6_isWord_0 rfl (q := 0) rfl ?_
  refine gf_X6_36 F hI gs_18 rfl bd_18_1 dX6_isWord_1 (fun v8 ev8 av8 bv8 => ?_)
  have zv8 : u1 = v8 := eu1.trans ev8.symm
  subst zv8
  refine z_if_ne (tgt := 31) F dX6_isWord_4 (by decide +kernel) (by omega) (fun c9 => ?_) (fun c9 => ?_)
  · refine z_iconst F dX6_isWord_31 ?_
    exact hret _ _ 32 _ ⟨by omega, by omega⟩ ⟨hI, hW⟩ ⟨⟨by omega, by omega⟩, rfl, (by omega), (iwC_e (k := 0) (iwC_n (by rw [wl_count, tkC_lt (c := 1) (by decide) (by decide)]; omega)) (fun q => by exfalso; omega) (by omega) (by omega))⟩ dX6_isWord_32
  · refine z_aload_n F dX6_isWord_7 rfl (q := 0) rfl ?_
    refine gf_X6_48 F hI gs_18 rfl bd_18_7 dX6_isWord_8 (fun v10 ev10 av10 bv10 => ?_)
    have zv10 : u6 = v10 := eu6.trans ev10.symm
    subst zv10
    refine z_iconst F dX6_isWord_11 ?_
    refine z_icmp_ne (tgt := 31) F dX6_isWord_12 (by decide +kernel) (by omega) (by omega) (fun c11 => ?_) (fun c11 => ?_)
    · refine z_iconst F dX6_isWord_31 ?_
      exact hret _ _ 32 _ ⟨by omega, by omega⟩ ⟨hI, hW⟩ ⟨⟨by omega, by omega⟩, rfl, (by omega), (iwC_e (k := 0) (iwC_n (by rw [wl_count, tkC_lt (c := 1) (by decide) (by decide)]; omega)) (fun q => by exfalso; omega) (by omega) (by omega))⟩ dX6_isWord_32
    · refine z_aload_n F dX6_isWord_15 rfl (q := 0) rfl ?_
      refine gf_X6_33 F hI gs_18 rfl bd_18_5 dX6_isWord_16 (fun v12 ev12 av12 bv12 => ?_)
      have zv12 : u4 = v12 := eu4.trans ev12.symm
      subst zv12
      refine z_aload_n F dX6_isWord_19 rfl (q := 0) rfl ?_
      refine gf_X6_57 F hI gs_18 rfl bd_18_6 dX6_isWord_20 (fun v13 ev13 av13 bv13 => ?_)
      have zv13 : u5 = v13 := eu5.trans ev13.symm
      subst zv13
      refine z_isub F dX6_isWord_23 ?_
      refine z_aload_n F dX6_isWord_24 rfl (q := 1) rfl ?_
      refine zvs_i (i := 6) (rest := [ii (u4 - u5)]) F (kS_len l M ⟨hI, hW⟩ 6 (by decide)) cs_X6_75 (by decide) (by decide) (by decide) rfl rfl rfl (Nat.le_of_ble_eq_true rfl) dX6_isWord_25 (fun v14 M9 rv14 hI9 pv14 => ?_)
      obtain ⟨ev14, rfl⟩ := pv14
      obtain rfl : v14 = 5 := ev14.trans (show ((sbyt.getD 6 []).length : Int) = 5 from by decide)
      clear hI9
      refine z_icmp_eq (tgt := 33) F dX6_isWord_28 (by decide +kernel) (by omega) (by omega) (fun c15 => ?_) (fun c15 => ?_)
      · refine z_iconst F dX6_isWord_33 ?_
        refine z_istore_n F dX6_isWord_34 rfl (by decide) (ls' := [(2, ii 0), (0, .ref (ad 18)), (1, .ref (ad 1006))]) rfl ?_
        refine z_loc [1, 2, 0] (ls' := [(0, .ref (ad 18)), (1, .ref (ad 1006)), (2, ii 0)]) rfl ?_
        suffices key35 : ∀ (n : Nat) (y17 : Int), 0 ≤ y17 → y17 ≤ 5 → (Iw_C M w_count 1 y17) → 5 - y17 < (n : Int) → Z D cy ad p l e (RMh 5) s m args below meth c A 3 0 0 Q 35 [(0, .ref (ad 18)), (1, .ref (ad 1006)), (2, ii y17)] [] M from key35 6 0 (by omega) (by omega) iwC_0 (by omega)
        intro n35
        induction n35 with
        | zero => intro y17 ay17 by17 i35_0 hn35; exfalso; omega
        | succ n35 ih35 =>
          intro y17 ay17 by17 i35_0 hn35
          refine z_iload_n F dX6_isWord_35 rfl (q := 2) rfl ?_
          refine z_aload_n F dX6_isWord_36 rfl (q := 1) rfl ?_
          refine zvs_i (i := 6) (rest := [ii y17]) F (kS_len l M ⟨hI, hW⟩ 6 (by decide)) cs_X6_75 (by decide) (by decide) (by decide) rfl rfl rfl (Nat.le_of_ble_eq_true rfl) dX6_isWord_37 (fun v18 M9 rv18 hI9 pv18 => ?_)
          obtain ⟨ev18, rfl⟩ := pv18
          obtain rfl : v18 = 5 := ev18.trans (show ((sbyt.getD 6 []).length : Int) = 5 from by decide)
          clear hI9
          refine z_icmp_ge (tgt := 70) F dX6_isWord_40 (by decide +kernel) (by omega) (by omega) (fun c19 => ?_) (fun c19 => ?_)
          · refine z_iconst F dX6_isWord_70 ?_
            exact hret _ _ 71 _ ⟨by omega, by omega⟩ ⟨hI, hW⟩ ⟨⟨by omega, by omega⟩, rfl, (by omega), (iwC_e i35_0 (fun q => by rw [wl_count, tkC_lt (c := 1) (by decide) (by decide)]; omega) (by omega) (by omega))⟩ dX6_isWord_71
          · refine z_aload_n F dX6_isWord_43 rfl (q := 0) rfl ?_
            refine rf_X6_22 F gs_18 rfl dX6_isWord_44 ?_
            refine z_aload_n F dX6_isWord_47 rfl (q := 0) rfl ?_
            refine gf_X6_57 F hI gs_18 rfl bd_18_6 dX6_isWord_48 (fun v20 ev20 av20 bv20 => ?_)
            have zv20 : u5 = v20 := eu5.trans ev20.symm
            subst zv20
            refine z_iload_n F dX6_isWord_51 rfl (q := 2) rfl ?_
            refine z_iadd F dX6_isWord_52 ?_
            have k21 : 0 ≤ (u5 + y17) ∧ (u5 + y17) ≤ 899 := by omega
            refine z_bald F hI gs_1 (by omega) (by omega) (by decide) bd_1 dX6_isWord_53 (fun v22 (ev22 : v22 = M 1 _) av22 bv22 => ?_)
            refine z_aload_n F dX6_isWord_54 rfl (q := 1) rfl ?_
            refine z_iload_n F dX6_isWord_55 rfl (q := 2) rfl ?_
            refine zvs_i (i := 6) (rest := [ii v22]) F (kS_chr l M ⟨hI, hW⟩ 6 (by decide) y17 (by omega) (show y17 < ((sbyt.getD 6 []).length : Int) from by rw [show ((sbyt.getD 6 []).length : Int) = 5 from by decide]; omega)) cs_X6_78 (by decide) (by decide) (by decide) rfl rfl rfl (Nat.le_of_ble_eq_true rfl) dX6_isWord_56 (fun v23 M9 rv23 hI9 pv23 => ?_)
            obtain ⟨⟨av23, bv23, ev23⟩, rfl⟩ := pv23
            clear hI9
            refine z_icmp_eq (tgt := 64) F dX6_isWord_59 (by decide +kernel) (by omega) (by omega) (fun c24 => ?_) (fun c24 => ?_)
            · refine z_iincN F dX6_isWord_64 (q := 2) rfl (by decide) (fun v25 ev25 => ?_)
              refine z_eq (ls' := [(2, ii v25), (0, .ref (ad 18)), (1, .ref (ad 1006))]) rfl rfl rfl ?_
              refine z_goto (tgt := 35) F dX6_isWord_67 (by decide +kernel) ?_
              refine z_loc [1, 2, 0] (ls' := [(0, .ref (ad 18)), (1, .ref (ad 1006)), (2, ii v25)]) rfl ?_
              exact ih35 v25 (by omega) (by omega) (by rw [show v25 = y17 + 1 from by omega]; exact iwC_s (z' := 1) (c1 := v22 % 256) i35_0 rfl (by omega) (by rw [wl_count]; omega) (by rw [wl_count]; omega) (show v22 % 256 = bC M ((M 18 6).toNat + (y17).toNat) from by show _ = M 1 _ % 256; rw [show (M 18 6).toNat + (y17).toNat = ((u5 + y17)).toNat from by omega, ← ev22]) (ev23.trans (sw_6 (y17).toNat (by omega)).1) (by have g9 := (sw_6 (y17).toNat (by omega)).2; omega)) (by omega)
            · refine z_iconst F dX6_isWord_62 ?_
              exact hret _ _ 63 _ ⟨by omega, by omega⟩ ⟨hI, hW⟩ ⟨⟨by omega, by omega⟩, rfl, (by omega), (iwC_e (iwC_s (z' := 0) (c1 := v22 % 256) i35_0 rfl (by omega) (by rw [wl_count]; omega) (by rw [wl_count]; omega) (show v22 % 256 = bC M ((M 18 6).toNat + (y17).toNat) from by show _ = M 1 _ % 256; rw [show (M 18 6).toNat + (y17).toNat = ((u5 + y17)).toNat from by omega, ← ev22]) (ev23.trans (sw_6 (y17).toNat (by omega)).1) (by have g9 := (sw_6 (y17).toNat (by omega)).2; omega)) (fun q => by exfalso; omega) (by omega) (by omega))⟩ dX6_isWord_63
      · refine z_iconst F dX6_isWord_31 ?_
        exact hret _ _ 32 _ ⟨by omega, by omega⟩ ⟨hI, hW⟩ ⟨⟨by omega, by omega⟩, rfl, (by omega), (iwC_e (k := 0) (iwC_n (by rw [wl_count, tkC_lt (c := 1) (by decide) (by decide)]; omega)) (fun q => by exfalso; omega) (by omega) (by omega))⟩ dX6_isWord_32
set_option maxHeartbeats 4000000 in
set_option maxRecDepth 4000 in
theorem kp_X6_needWord_18_1006 (l : Launch) (M : Mem) (hJ : Iw M) (hp0 : M 18 6 ≤ M 18 5 ∧ M 18 5 ≤ M 18 4 ∧ M 18 7 ≤ 4 * (M 18 5 - M 18 6)) : CV l yX6_needWord cX6_needWord 2 none 7 (fun ad => [.ref (ad 18), .ref (ad 1006)]) M (fun M' => Fr [18] M M' ∧ (M' 18 4 = M 18 4 ∧ M' 18 6 ≤ M' 18 5 ∧ M' 18 5 ≤ M' 18 4 ∧ M' 18 7 ≤ 4 * (M' 18 5 - M' 18 6) ∧ M 18 6 ≤ M' 18 6 ∧ (M' 18 1 = 0 → M 18 1 = 0)) ∧ (mustW w_count (absC M) = absC M')) := by
  obtain ⟨hI, hW⟩ := hJ
  have hF : Fr [18] M M := Fr.rf
  refine en_v (by decide +kernel) (fun ad => by exact Nat.le_of_ble_eq_true rfl) (fun D cy ad A p e s m args below meth c Q F hret => ?_)
  refine z_eq (ls' := [(0, .ref (ad 18)), (1, .ref (ad 1006))]) rfl rfl rfl ?_
  refine z_aload_n F dX6_needWord_0 rfl (q := 0) rfl ?_
  refine z_aload_n F dX6_needWord_1 rfl (q := 1) rfl ?_
  refine zv_i (rest := []) F (kp_X6_isWord_18_1006 l M ⟨hI, hW⟩ (by omega)) cs_X6_86 (T := TX6) (N := 9) (ci := 6) rfl gs_18 (by decide) (by decide) rfl rfl rfl (Nat.le_of_ble_eq_true rfl) dX6_needWord_2 (fun v1 M2 rv1 hI p3 => ?_)
  obtain ⟨hI, hW⟩ := hI
  obtain ⟨⟨av1, bv1⟩, rfl, xp3, yp3⟩ := p3
  refine z_if_eq (tgt := 15) F dX6_needWord_5 (by decide +kernel) (by omega) (fun c4 => ?_) (fun c4 => ?_)
  · refine z_aload_n F dX6_needWord_15 rfl (q := 0) rfl ?_
    refine zv_v (rest := []) F (kp_X6_refuse_18 l M ⟨hI, hW⟩) cs_X6_90 (T := TX6) (N := 9) (ci := 6) rfl gs_18 (by decide) (by decide) rfl rfl rfl (Nat.le_of_ble_eq_true rfl) dX6_needWord_16 (fun M5 hI p6 => ?_)
    obtain ⟨hI, hW⟩ := hI
    obtain ⟨fp6, xp6, yp6⟩ := p6
    have hF := hF.call fp6 (by decide)
    exact hret _ 19 _ ⟨hI, hW⟩ ⟨hF, (by omega), (must_f (wz_f yp3 (by omega)) yp6)⟩ dX6_needWord_19
  · refine z_aload_n F dX6_needWord_8 rfl (q := 0) rfl ?_
    refine zv_v (rest := []) F (kp_X6_advance_18 l M ⟨hI, hW⟩ (by omega)) cs_X6_42 (T := TX6) (N := 9) (ci := 6) rfl gs_18 (by decide) (by decide) rfl rfl rfl (Nat.le_of_ble_eq_true rfl) dX6_needWord_9 (fun M7 hI p8 => ?_)
    obtain ⟨hI, hW⟩ := hI
    obtain ⟨fp8, xp8, yp8⟩ := p8
    have hF := hF.call fp8 (by decide)
    refine z_goto (tgt := 19) F dX6_needWord_12 (by decide +kernel) ?_
    exact hret _ 19 _ ⟨hI, hW⟩ ⟨hF, (by omega), (must_t (wz_t yp3 (by omega)) (yp8 (by omega)))⟩ dX6_needWord_19
