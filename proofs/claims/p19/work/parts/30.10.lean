theorem dX1_giveBack_0 : decode cX1_giveBack 0 = .ok (.aload_n 1, 1) := by decide +kernel
theorem dX1_giveBack_1 : decode cX1_giveBack 1 = .ok (.aload_n 0, 1) := by decide +kernel
theorem dX1_giveBack_10 : decode cX1_giveBack 10 = .ok (.getfield 18, 3) := by decide +kernel
theorem dX1_giveBack_13 : decode cX1_giveBack 13 = .ok (.iconst 0, 1) := by decide +kernel
theorem dX1_giveBack_14 : decode cX1_giveBack 14 = .ok (.invokevirtual 44, 3) := by decide +kernel
theorem dX1_giveBack_17 : decode cX1_giveBack 17 = .ok (.aload_n 3, 1) := by decide +kernel
theorem dX1_giveBack_18 : decode cX1_giveBack 18 = .ok (.aload_n 0, 1) := by decide +kernel
theorem dX1_giveBack_19 : decode cX1_giveBack 19 = .ok (.getfield 25, 3) := by decide +kernel
theorem dX1_giveBack_2 : decode cX1_giveBack 2 = .ok (.getfield 10, 3) := by decide +kernel
theorem dX1_giveBack_22 : decode cX1_giveBack 22 = .ok (.invokevirtual 41, 3) := by decide +kernel
theorem dX1_giveBack_25 : decode cX1_giveBack 25 = .ok (.return_, 1) := by decide +kernel
theorem dX1_giveBack_5 : decode cX1_giveBack 5 = .ok (.invokevirtual 33, 3) := by decide +kernel
theorem dX1_giveBack_8 : decode cX1_giveBack 8 = .ok (.aload_n 2, 1) := by decide +kernel
theorem dX1_giveBack_9 : decode cX1_giveBack 9 = .ok (.aload_n 0, 1) := by decide +kernel
set_option maxRecDepth 4000 in
theorem k_X9_copy_75_13 (l : Launch) (M : Mem) (hJ : Iw M) : CV l yX9_copy cX9_copy 2 none 1 (fun ad => [.ref (ad 75), .ref (ad 13)]) M (fun M' => Fr [13] M M' ∧ (∀ j : Nat, j < 6 → M' 13 j = M 75 j)) := by
  obtain ⟨hI, hW⟩ := hJ
  have hF : Fr [13] M M := Fr.rf
  refine en_v (by decide +kernel) (fun ad => by exact Nat.le_of_ble_eq_true rfl) (fun D cy ad A p e s m args below meth c Q F hret => ?_)
  refine z_eq (ls' := [(0, .ref (ad 75)), (1, .ref (ad 13))]) rfl rfl rfl ?_
  refine z_aload_n F dX9_copy_0 rfl (q := 0) rfl ?_
  refine z_iconst F dX9_copy_1 ?_
  refine z_aload_n F dX9_copy_2 rfl (q := 1) rfl ?_
  refine z_iconst F dX9_copy_3 ?_
  refine z_aload_n F dX9_copy_4 rfl (q := 0) rfl ?_
  refine z_alen (x := 6) F gs_75 rfl rfl dX9_copy_5 ?_
  refine z_aload_n F dX9_copy_6 rfl (q := 1) rfl ?_
  refine z_alen (x := 6) F gs_13 rfl rfl dX9_copy_7 ?_
  refine z_min F mm_X9_85 (Nat.le_of_ble_eq_true rfl) dX9_copy_8 (by omega) (by omega) (fun v1 ev1 => ?_)
  refine z_copyE F (by decide) ac_X9_91 hI gs_75 gs_13 (by omega) (by omega) (by omega) (by omega) (by omega) (by decide) (by decide) (fun i hi => rfl) (Nat.le_of_ble_eq_true rfl) dX9_copy_11 (fun M3 hI g2 kg2 => ?_)
  have hF := hF.call g2 (by decide)
  have hW : WFk M3 := hW.fr g2 (by decide) (by decide)
  exact hret _ 14 _ ⟨hI, hW⟩ ⟨hF, (cp_at (f := M3 13) (g := M 75) (h := M 13) 6 kg2 (by omega))⟩ dX9_copy_14
set_option maxRecDepth 4000 in
theorem k_X2_copyFrom_14_76 (l : Launch) (M : Mem) (hJ : Iw M) : CV l yX2_copyFrom cX2_copyFrom 2 none 1 (fun ad => [.ref (ad 14), .ref (ad 76)]) M (fun M' => Fr [14, 15] M M') := by
  obtain ⟨hI, hW⟩ := hJ
  have hF : Fr [14, 15] M M := Fr.rf
  refine en_v (by decide +kernel) (fun ad => by exact Nat.le_of_ble_eq_true rfl) (fun D cy ad A p e s m args below meth c Q F hret => ?_)
  refine z_eq (ls' := [(0, .ref (ad 14)), (1, .ref (ad 76))]) rfl rfl rfl ?_
  refine z_aload_n F dX2_copyFrom_0 rfl (q := 0) rfl ?_
  refine z_aload_n F dX2_copyFrom_1 rfl (q := 1) rfl ?_
  refine gf_X2_15 F hI gs_76 rfl bd_76_2 dX2_copyFrom_2 (fun v1 ev1 av1 bv1 => ?_)
  refine pf_X2_15 F hI gs_14 rfl bd_14_2 rfl rfl dX2_copyFrom_5 (by omega) (by omega) (fun M3 hI sf2 f2 => ?_)
  have hF := hF.wr f2 (by decide) (by decide)
  have hW : WFk M3 := hW.site f2 (by decide)
  refine z_aload_n F dX2_copyFrom_8 rfl (q := 0) rfl ?_
  refine z_aload_n F dX2_copyFrom_9 rfl (q := 1) rfl ?_
  refine gf_X2_25 F hI gs_76 rfl bd_76_1 dX2_copyFrom_10 (fun v4 ev4 av4 bv4 => ?_)
  refine pf_X2_25 F hI gs_14 rfl bd_14_1 rfl rfl dX2_copyFrom_13 (by omega) (by omega) (fun M6 hI sf5 f5 => ?_)
  have hF := hF.wr f5 (by decide) (by decide)
  have hW : WFk M6 := hW.site f5 (by decide)
  refine z_aload_n F dX2_copyFrom_16 rfl (q := 1) rfl ?_
  refine rf_X2_9 F gs_76 rfl dX2_copyFrom_17 ?_
  refine z_iconst F dX2_copyFrom_20 ?_
  refine z_aload_n F dX2_copyFrom_21 rfl (q := 0) rfl ?_
  refine rf_X2_9 F gs_14 rfl dX2_copyFrom_22 ?_
  refine z_iconst F dX2_copyFrom_25 ?_
  refine z_aload_n F dX2_copyFrom_26 rfl (q := 1) rfl ?_
  refine gf_X2_25 F hI gs_76 rfl bd_76_1 dX2_copyFrom_27 (fun v7 ev7 av7 bv7 => ?_)
  have q8 : v4 = M6 76 1 := ev4.trans (f5 76 1 (fun q => absurd q.1 (by decide))).symm
  have zv7 : v4 = v7 := q8.trans ev7.symm
  subst zv7
  refine z_copy F (by decide) ac_X2_28 hI gs_77 gs_15 (by omega) (by omega) (by omega) (by omega) (by omega) (by decide) (by decide) (fun i hi => rfl) (Nat.le_of_ble_eq_true rfl) dX2_copyFrom_30 (fun M10 hI g9 => ?_)
  have hF := hF.call g9 (by decide)
  have hW : WFk M10 := hW.fr g9 (by decide) (by decide)
  exact hret _ 33 _ ⟨hI, hW⟩ hF dX2_copyFrom_33
set_option maxRecDepth 4000 in
theorem k_X9_copyFrom_2_64 (l : Launch) (M : Mem) (hJ : Iw M) : CV l yX9_copyFrom cX9_copyFrom 2 none 2 (fun ad => [.ref (ad 2), .ref (ad 64)]) M (fun M' => Fr [2, 3, 4, 5, 6, 7, 8, 9, 10, 11, 12, 13, 14, 15] M M' ∧ (M' 2 0 = M 64 0) ∧ (Cp 64 2 M M')) := by
  obtain ⟨hI, hW⟩ := hJ
  have hF : Fr [2, 3, 4, 5, 6, 7, 8, 9, 10, 11, 12, 13, 14, 15] M M := Fr.rf
  have hI0 := hI
  have hW0 := hW
  refine en_v (by decide +kernel) (fun ad => by exact Nat.le_of_ble_eq_true rfl) (fun D cy ad A p e s m args below meth c Q F hret => ?_)
  refine z_eq (ls' := [(0, .ref (ad 2)), (1, .ref (ad 64))]) rfl rfl rfl ?_
  refine z_aload_n F dX9_copyFrom_0 rfl (q := 0) rfl ?_
  refine z_aload_n F dX9_copyFrom_1 rfl (q := 1) rfl ?_
  refine gf_X9_52 F hI gs_64 rfl bd_64_0 dX9_copyFrom_2 (fun v1 ev1 av1 bv1 => ?_)
  refine pf_X9_52 F hI gs_2 rfl bd_2_0 rfl rfl dX9_copyFrom_5 (by omega) (by omega) (fun M3 hI sf2 f2 => ?_)
  have hF := hF.wr f2 (by decide) (by decide)
  have hW : WFk M3 := hW.site f2 (by decide)
  refine z_aload_n F dX9_copyFrom_8 rfl (q := 0) rfl ?_
  refine z_aload_n F dX9_copyFrom_9 rfl (q := 1) rfl ?_
  refine gf_X9_56 F hI gs_64 rfl bd_64_1 dX9_copyFrom_10 (fun v4 ev4 av4 bv4 => ?_)
  refine pf_X9_56 F hI gs_2 rfl bd_2_1 rfl rfl dX9_copyFrom_13 (by omega) (by omega) (fun M6 hI sf5 f5 => ?_)
  have hF := hF.wr f5 (by decide) (by decide)
  have hW : WFk M6 := hW.site f5 (by decide)
  refine z_aload_n F dX9_copyFrom_16 rfl (q := 0) rfl ?_
  refine z_aload_n F dX9_copyFrom_17 rfl (q := 1) rfl ?_
  refine gf_X9_59 F hI gs_64 rfl bd_64_2 dX9_copyFrom_18 (fun v7 ev7 av7 bv7 => ?_)
  refine pf_X9_59 F hI gs_2 rfl bd_2_2 rfl rfl dX9_copyFrom_21 (by omega) (by omega) (fun M9 hI sf8 f8 => ?_)
  have hF := hF.wr f8 (by decide) (by decide)
  have hW : WFk M9 := hW.site f8 (by decide)
  refine z_aload_n F dX9_copyFrom_24 rfl (q := 0) rfl ?_
  refine z_aload_n F dX9_copyFrom_25 rfl (q := 1) rfl ?_
  refine gf_X9_62 F hI gs_64 rfl bd_64_3 dX9_copyFrom_26 (fun v10 ev10 av10 bv10 => ?_)
  refine pf_X9_62 F hI gs_2 rfl bd_2_3 rfl rfl dX9_copyFrom_29 (by omega) (by omega) (fun M12 hI sf11 f11 => ?_)
  have hF := hF.wr f11 (by decide) (by decide)
  have hW : WFk M12 := hW.site f11 (by decide)
  refine z_aload_n F dX9_copyFrom_32 rfl (q := 0) rfl ?_
  refine z_aload_n F dX9_copyFrom_33 rfl (q := 1) rfl ?_
  refine gf_X9_65 F hI gs_64 rfl bd_64_4 dX9_copyFrom_34 (fun v13 ev13 av13 bv13 => ?_)
  refine pf_X9_65 F hI gs_2 rfl bd_2_4 rfl rfl dX9_copyFrom_37 (by omega) (by omega) (fun M15 hI sf14 f14 => ?_)
  have hF := hF.wr f14 (by decide) (by decide)
  have hW : WFk M15 := hW.site f14 (by decide)
  refine z_aload_n F dX9_copyFrom_40 rfl (q := 0) rfl ?_
  refine z_aload_n F dX9_copyFrom_41 rfl (q := 1) rfl ?_
  refine gf_X9_68 F hI gs_64 rfl bd_64_12 dX9_copyFrom_42 (fun v16 ev16 av16 bv16 => ?_)
  refine pf_X9_68 F hI gs_2 rfl bd_2_12 rfl rfl dX9_copyFrom_45 (by omega) (by omega) (fun M18 hI sf17 f17 => ?_)
  have hF := hF.wr f17 (by decide) (by decide)
  have hW : WFk M18 := hW.site f17 (by decide)
  refine z_aload_n F dX9_copyFrom_48 rfl (q := 1) rfl ?_
  refine rf_X9_9 F gs_64 rfl dX9_copyFrom_49 ?_
  refine z_aload_n F dX9_copyFrom_52 rfl (q := 0) rfl ?_
  refine rf_X9_9 F gs_2 rfl dX9_copyFrom_53 ?_
  refine zs_v (rest := []) F (k_X9_copy_65_3 l M18 ⟨hI, hW⟩) cs_X9_77 (by decide) (by decide) rfl rfl rfl (Nat.le_of_ble_eq_true rfl) dX9_copyFrom_56 (fun M19 hI p20 => ?_)
  obtain ⟨hI, hW⟩ := hI
  obtain ⟨fp20, yp20⟩ := p20
  have hF := hF.call fp20 (by decide)
  refine z_aload_n F dX9_copyFrom_59 rfl (q := 1) rfl ?_
  refine rf_X9_15 F gs_64 rfl dX9_copyFrom_60 ?_
  refine z_aload_n F dX9_copyFrom_63 rfl (q := 0) rfl ?_
  refine rf_X9_15 F gs_2 rfl dX9_copyFrom_64 ?_
  refine zs_v (rest := []) F (k_X9_copy_66_4 l M19 ⟨hI, hW⟩) cs_X9_77 (by decide) (by decide) rfl rfl rfl (Nat.le_of_ble_eq_true rfl) dX9_copyFrom_67 (fun M21 hI p22 => ?_)
  obtain ⟨hI, hW⟩ := hI
  obtain ⟨fp22, yp22⟩ := p22
  have hF := hF.call fp22 (by decide)
  refine z_aload_n F dX9_copyFrom_70 rfl (q := 1) rfl ?_
  refine rf_X9_18 F gs_64 rfl dX9_copyFrom_71 ?_
  refine z_aload_n F dX9_copyFrom_74 rfl (q := 0) rfl ?_
  refine rf_X9_18 F gs_2 rfl dX9_copyFrom_75 ?_
  refine zs_v (rest := []) F (k_X9_copy_67_5 l M21 ⟨hI, hW⟩) cs_X9_77 (by decide) (by decide) rfl rfl rfl (Nat.le_of_ble_eq_true rfl) dX9_copyFrom_78 (fun M23 hI p24 => ?_)
  obtain ⟨hI, hW⟩ := hI
  obtain ⟨fp24, yp24⟩ := p24
  have hF := hF.call fp24 (by decide)
  refine z_aload_n F dX9_copyFrom_81 rfl (q := 1) rfl ?_
  refine rf_X9_21 F gs_64 rfl dX9_copyFrom_82 ?_
  refine z_aload_n F dX9_copyFrom_85 rfl (q := 0) rfl ?_
  refine rf_X9_21 F gs_2 rfl dX9_copyFrom_86 ?_
  refine zs_v (rest := []) F (k_X9_copy_68_6 l M23 ⟨hI, hW⟩) cs_X9_77 (by decide) (by decide) rfl rfl rfl (Nat.le_of_ble_eq_true rfl) dX9_copyFrom_89 (fun M25 hI p26 => ?_)
  obtain ⟨hI, hW⟩ := hI
  obtain ⟨fp26, yp26⟩ := p26
  have hF := hF.call fp26 (by decide)
  refine z_aload_n F dX9_copyFrom_92 rfl (q := 1) rfl ?_
  refine rf_X9_24 F gs_64 rfl dX9_copyFrom_93 ?_
  refine z_aload_n F dX9_copyFrom_96 rfl (q := 0) rfl ?_
  refine rf_X9_24 F gs_2 rfl dX9_copyFrom_97 ?_
  refine zs_v (rest := []) F (k_X9_copy_69_7 l M25 ⟨hI, hW⟩) cs_X9_77 (by decide) (by decide) rfl rfl rfl (Nat.le_of_ble_eq_true rfl) dX9_copyFrom_100 (fun M27 hI p28 => ?_)
  obtain ⟨hI, hW⟩ := hI
  obtain ⟨fp28, yp28⟩ := p28
  have hF := hF.call fp28 (by decide)
  refine z_aload_n F dX9_copyFrom_103 rfl (q := 1) rfl ?_
  refine rf_X9_27 F gs_64 rfl dX9_copyFrom_104 ?_
  refine z_aload_n F dX9_copyFrom_107 rfl (q := 0) rfl ?_
  refine rf_X9_27 F gs_2 rfl dX9_copyFrom_108 ?_
  refine zs_v (rest := []) F (k_X9_copy_70_8 l M27 ⟨hI, hW⟩) cs_X9_77 (by decide) (by decide) rfl rfl rfl (Nat.le_of_ble_eq_true rfl) dX9_copyFrom_111 (fun M29 hI p30 => ?_)
  obtain ⟨hI, hW⟩ := hI
  obtain ⟨fp30, yp30⟩ := p30
  have hF := hF.call fp30 (by decide)
  refine z_aload_n F dX9_copyFrom_114 rfl (q := 1) rfl ?_
  refine rf_X9_30 F gs_64 rfl dX9_copyFrom_115 ?_
  refine z_aload_n F dX9_copyFrom_118 rfl (q := 0) rfl ?_
  refine rf_X9_30 F gs_2 rfl dX9_copyFrom_119 ?_
  refine zs_v (rest := []) F (k_X9_copy_71_9 l M29 ⟨hI, hW⟩) cs_X9_77 (by decide) (by decide) rfl rfl rfl (Nat.le_of_ble_eq_true rfl) dX9_copyFrom_122 (fun M31 hI p32 => ?_)
  obtain ⟨hI, hW⟩ := hI
  obtain ⟨fp32, yp32⟩ := p32
  have hF := hF.call fp32 (by decide)
  refine z_aload_n F dX9_copyFrom_125 rfl (q := 1) rfl ?_
  refine rf_X9_33 F gs_64 rfl dX9_copyFrom_126 ?_
  refine z_aload_n F dX9_copyFrom_129 rfl (q := 0) rfl ?_
  refine rf_X9_33 F gs_2 rfl dX9_copyFrom_130 ?_
  refine zs_v (rest := []) F (k_X9_copy_72_10 l M31 ⟨hI, hW⟩) cs_X9_77 (by decide) (by decide) rfl rfl rfl (Nat.le_of_ble_eq_true rfl) dX9_copyFrom_133 (fun M33 hI p34 => ?_)
  obtain ⟨hI, hW⟩ := hI
  obtain ⟨fp34, yp34⟩ := p34
  have hF := hF.call fp34 (by decide)
  refine z_aload_n F dX9_copyFrom_136 rfl (q := 1) rfl ?_
  refine rf_X9_36 F gs_64 rfl dX9_copyFrom_137 ?_
  refine z_aload_n F dX9_copyFrom_140 rfl (q := 0) rfl ?_
  refine rf_X9_36 F gs_2 rfl dX9_copyFrom_141 ?_
  refine zs_v (rest := []) F (k_X9_copy_73_11 l M33 ⟨hI, hW⟩) cs_X9_77 (by decide) (by decide) rfl rfl rfl (Nat.le_of_ble_eq_true rfl) dX9_copyFrom_144 (fun M35 hI p36 => ?_)
  obtain ⟨hI, hW⟩ := hI
  obtain ⟨fp36, yp36⟩ := p36
  have hF := hF.call fp36 (by decide)
  refine z_aload_n F dX9_copyFrom_147 rfl (q := 1) rfl ?_
  refine rf_X9_39 F gs_64 rfl dX9_copyFrom_148 ?_
  refine z_aload_n F dX9_copyFrom_151 rfl (q := 0) rfl ?_
  refine rf_X9_39 F gs_2 rfl dX9_copyFrom_152 ?_
  refine zs_v (rest := []) F (k_X9_copy_74_12 l M35 ⟨hI, hW⟩) cs_X9_77 (by decide) (by decide) rfl rfl rfl (Nat.le_of_ble_eq_true rfl) dX9_copyFrom_155 (fun M37 hI p38 => ?_)
  obtain ⟨hI, hW⟩ := hI
  obtain ⟨fp38, yp38⟩ := p38
  have hF := hF.call fp38 (by decide)
  refine z_aload_n F dX9_copyFrom_158 rfl (q := 1) rfl ?_
  refine rf_X9_42 F gs_64 rfl dX9_copyFrom_159 ?_
  refine z_aload_n F dX9_copyFrom_162 rfl (q := 0) rfl ?_
  refine rf_X9_42 F gs_2 rfl dX9_copyFrom_163 ?_
  refine zs_v (rest := []) F (k_X9_copy_75_13 l M37 ⟨hI, hW⟩) cs_X9_77 (by decide) (by decide) rfl rfl rfl (Nat.le_of_ble_eq_true rfl) dX9_copyFrom_166 (fun M39 hI p40 => ?_)
  obtain ⟨hI, hW⟩ := hI
  obtain ⟨fp40, yp40⟩ := p40
  have hF := hF.call fp40 (by decide)
  refine z_aload_n F dX9_copyFrom_169 rfl (q := 0) rfl ?_
  refine rf_X9_48 F gs_2 rfl dX9_copyFrom_170 ?_
  refine z_aload_n F dX9_copyFrom_173 rfl (q := 1) rfl ?_
  refine rf_X9_48 F gs_64 rfl dX9_copyFrom_174 ?_
  refine zv_v (rest := []) F (k_X2_copyFrom_14_76 l M39 ⟨hI, hW⟩) cs_X9_81 (T := TX2) (N := 5) (ci := 2) rfl gs_14 (by decide) (by decide) rfl rfl rfl (Nat.le_of_ble_eq_true rfl) dX9_copyFrom_177 (fun M41 hI p42 => ?_)
  obtain ⟨hI, hW⟩ := hI
  have fp42 := p42
  have hF := hF.call fp42 (by decide)
  have q43 : v1 = M6 2 0 := sf2.symm.trans (f5 2 0 (fun q => absurd q.2 (by decide))).symm
  have q44 : v1 = M9 2 0 := q43.trans (f8 2 0 (fun q => absurd q.2 (by decide))).symm
  have q45 : v1 = M12 2 0 := q44.trans (f11 2 0 (fun q => absurd q.2 (by decide))).symm
  have q46 : v1 = M15 2 0 := q45.trans (f14 2 0 (fun q => absurd q.2 (by decide))).symm
  have q47 : v1 = M18 2 0 := q46.trans (f17 2 0 (fun q => absurd q.2 (by decide))).symm
  have q48 : v1 = M19 2 0 := q47.trans ((fp20.at (by decide)) : M19 2 0 = _).symm
  have q49 : v1 = M21 2 0 := q48.trans ((fp22.at (by decide)) : M21 2 0 = _).symm
  have q50 : v1 = M23 2 0 := q49.trans ((fp24.at (by decide)) : M23 2 0 = _).symm
  have q51 : v1 = M25 2 0 := q50.trans ((fp26.at (by decide)) : M25 2 0 = _).symm
  have q52 : v1 = M27 2 0 := q51.trans ((fp28.at (by decide)) : M27 2 0 = _).symm
  have q53 : v1 = M29 2 0 := q52.trans ((fp30.at (by decide)) : M29 2 0 = _).symm
  have q54 : v1 = M31 2 0 := q53.trans ((fp32.at (by decide)) : M31 2 0 = _).symm
  have q55 : v1 = M33 2 0 := q54.trans ((fp34.at (by decide)) : M33 2 0 = _).symm
  have q56 : v1 = M35 2 0 := q55.trans ((fp36.at (by decide)) : M35 2 0 = _).symm
  have q57 : v1 = M37 2 0 := q56.trans ((fp38.at (by decide)) : M37 2 0 = _).symm
  have q58 : v1 = M39 2 0 := q57.trans ((fp40.at (by decide)) : M39 2 0 = _).symm
  have q59 : v1 = M41 2 0 := q58.trans ((fp42.at (by decide)) : M41 2 0 = _).symm
  have q60 : v4 = M9 2 1 := sf5.symm.trans (f8 2 1 (fun q => absurd q.2 (by decide))).symm
  have q61 : v4 = M12 2 1 := q60.trans (f11 2 1 (fun q => absurd q.2 (by decide))).symm
  have q62 : v4 = M15 2 1 := q61.trans (f14 2 1 (fun q => absurd q.2 (by decide))).symm
  have q63 : v4 = M18 2 1 := q62.trans (f17 2 1 (fun q => absurd q.2 (by decide))).symm
  have q64 : v4 = M19 2 1 := q63.trans ((fp20.at (by decide)) : M19 2 1 = _).symm
  have q65 : v4 = M21 2 1 := q64.trans ((fp22.at (by decide)) : M21 2 1 = _).symm
  have q66 : v4 = M23 2 1 := q65.trans ((fp24.at (by decide)) : M23 2 1 = _).symm
  have q67 : v4 = M25 2 1 := q66.trans ((fp26.at (by decide)) : M25 2 1 = _).symm
  have q68 : v4 = M27 2 1 := q67.trans ((fp28.at (by decide)) : M27 2 1 = _).symm
  have q69 : v4 = M29 2 1 := q68.trans ((fp30.at (by decide)) : M29 2 1 = _).symm
  have q70 : v4 = M31 2 1 := q69.trans ((fp32.at (by decide)) : M31 2 1 = _).symm
  have q71 : v4 = M33 2 1 := q70.trans ((fp34.at (by decide)) : M33 2 1 = _).symm
  have q72 : v4 = M35 2 1 := q71.trans ((fp36.at (by decide)) : M35 2 1 = _).symm
  have q73 : v4 = M37 2 1 := q72.trans ((fp38.at (by decide)) : M37 2 1 = _).symm
  have q74 : v4 = M39 2 1 := q73.trans ((fp40.at (by decide)) : M39 2 1 = _).symm
  have q75 : v4 = M41 2 1 := q74.trans ((fp42.at (by decide)) : M41 2 1 = _).symm
  have q76 : v10 = M15 2 3 := sf11.symm.trans (f14 2 3 (fun q => absurd q.2 (by decide))).symm
  have q77 : v10 = M18 2 3 := q76.trans (f17 2 3 (fun q => absurd q.2 (by decide))).symm
  have q78 : v10 = M19 2 3 := q77.trans ((fp20.at (by decide)) : M19 2 3 = _).symm
  have q79 : v10 = M21 2 3 := q78.trans ((fp22.at (by decide)) : M21 2 3 = _).symm
  have q80 : v10 = M23 2 3 := q79.trans ((fp24.at (by decide)) : M23 2 3 = _).symm
  have q81 : v10 = M25 2 3 := q80.trans ((fp26.at (by decide)) : M25 2 3 = _).symm
  have q82 : v10 = M27 2 3 := q81.trans ((fp28.at (by decide)) : M27 2 3 = _).symm
  have q83 : v10 = M29 2 3 := q82.trans ((fp30.at (by decide)) : M29 2 3 = _).symm
  have q84 : v10 = M31 2 3 := q83.trans ((fp32.at (by decide)) : M31 2 3 = _).symm
  have q85 : v10 = M33 2 3 := q84.trans ((fp34.at (by decide)) : M33 2 3 = _).symm
  have q86 : v10 = M35 2 3 := q85.trans ((fp36.at (by decide)) : M35 2 3 = _).symm
  have q87 : v10 = M37 2 3 := q86.trans ((fp38.at (by decide)) : M37 2 3 = _).symm
  have q88 : v10 = M39 2 3 := q87.trans ((fp40.at (by decide)) : M39 2 3 = _).symm
  have q89 : v10 = M41 2 3 := q88.trans ((fp42.at (by decide)) : M41 2 3 = _).symm
  have q90 : v13 = M18 2 4 := sf14.symm.trans (f17 2 4 (fun q => absurd q.2 (by decide))).symm
  have q91 : v13 = M19 2 4 := q90.trans ((fp20.at (by decide)) : M19 2 4 = _).symm
  have q92 : v13 = M21 2 4 := q91.trans ((fp22.at (by decide)) : M21 2 4 = _).symm
  have q93 : v13 = M23 2 4 := q92.trans ((fp24.at (by decide)) : M23 2 4 = _).symm
  have q94 : v13 = M25 2 4 := q93.trans ((fp26.at (by decide)) : M25 2 4 = _).symm
  have q95 : v13 = M27 2 4 := q94.trans ((fp28.at (by decide)) : M27 2 4 = _).symm
  have q96 : v13 = M29 2 4 := q95.trans ((fp30.at (by decide)) : M29 2 4 = _).symm
  have q97 : v13 = M31 2 4 := q96.trans ((fp32.at (by decide)) : M31 2 4 = _).symm
  have q98 : v13 = M33 2 4 := q97.trans ((fp34.at (by decide)) : M33 2 4 = _).symm
  have q99 : v13 = M35 2 4 := q98.trans ((fp36.at (by decide)) : M35 2 4 = _).symm
  have q100 : v13 = M37 2 4 := q99.trans ((fp38.at (by decide)) : M37 2 4 = _).symm
  have q101 : v13 = M39 2 4 := q100.trans ((fp40.at (by decide)) : M39 2 4 = _).symm
  have q102 : v13 = M41 2 4 := q101.trans ((fp42.at (by decide)) : M41 2 4 = _).symm
  exact hret _ 180 _ ⟨hI, hW⟩ ⟨hF, (Eq.trans (Eq.symm q59) ev1), (cp_i (sC_eq (hI0.at (show Bd 64 1 = (0, 10) from rfl)).2 (hI0.at (show Bd 64 4 = (0, 6) from rfl)).2 (q75.symm.trans (ev4.trans (f2 64 1 (fun q => absurd q.1 (by decide))))) (q89.symm.trans (ev10.trans ((f8 64 3 (fun q => absurd q.1 (by decide))).trans ((f5 64 3 (fun q => absurd q.1 (by decide))).trans (f2 64 3 (fun q => absurd q.1 (by decide))))))) (q102.symm.trans (ev13.trans ((f11 64 4 (fun q => absurd q.1 (by decide))).trans ((f8 64 4 (fun q => absurd q.1 (by decide))).trans ((f5 64 4 (fun q => absurd q.1 (by decide))).trans (f2 64 4 (fun q => absurd q.1 (by decide)))))))) (fun j h => ((fp42.at (by decide) : M41 3 j = _).trans ((fp40.at (by decide) : M39 3 j = _).trans ((fp38.at (by decide) : M37 3 j = _).trans ((fp36.at (by decide) : M35 3 j = _).trans ((fp34.at (by decide) : M33 3 j = _).trans ((fp32.at (by decide) : M31 3 j = _).trans ((fp30.at (by decide) : M29 3 j = _).trans ((fp28.at (by decide) : M27 3 j = _).trans ((fp26.at (by decide) : M25 3 j = _).trans ((fp24.at (by decide) : M23 3 j = _).trans (fp22.at (by decide) : M21 3 j = _))))))))))).trans ((yp20 j h).trans ((f17 65 j (fun q => absurd q.1 (by decide))).trans ((f14 65 j (fun q => absurd q.1 (by decide))).trans ((f11 65 j (fun q => absurd q.1 (by decide))).trans ((f8 65 j (fun q => absurd q.1 (by decide))).trans ((f5 65 j (fun q => absurd q.1 (by decide))).trans (f2 65 j (fun q => absurd q.1 (by decide)))))))))) (fun j h => ((fp42.at (by decide) : M41 10 j = _).trans ((fp40.at (by decide) : M39 10 j = _).trans ((fp38.at (by decide) : M37 10 j = _).trans (fp36.at (by decide) : M35 10 j = _)))).trans ((yp34 j h).trans ((fp32.at (by decide) : M31 72 j = _).trans ((fp30.at (by decide) : M29 72 j = _).trans ((fp28.at (by decide) : M27 72 j = _).trans ((fp26.at (by decide) : M25 72 j = _).trans ((fp24.at (by decide) : M23 72 j = _).trans ((fp22.at (by decide) : M21 72 j = _).trans ((fp20.at (by decide) : M19 72 j = _).trans ((f17 72 j (fun q => absurd q.1 (by decide))).trans ((f14 72 j (fun q => absurd q.1 (by decide))).trans ((f11 72 j (fun q => absurd q.1 (by decide))).trans ((f8 72 j (fun q => absurd q.1 (by decide))).trans ((f5 72 j (fun q => absurd q.1 (by decide))).trans (f2 72 j (fun q => absurd q.1 (by decide))))))))))))))))) (fun j h => ((fp42.at (by decide) : M41 11 j = _).trans ((fp40.at (by decide) : M39 11 j = _).trans (fp38.at (by decide) : M37 11 j = _))).trans ((yp36 j h).trans ((fp34.at (by decide) : M33 73 j = _).trans ((fp32.at (by decide) : M31 73 j = _).trans ((fp30.at (by decide) : M29 73 j = _).trans ((fp28.at (by decide) : M27 73 j = _).trans ((fp26.at (by decide) : M25 73 j = _).trans ((fp24.at (by decide) : M23 73 j = _).trans ((fp22.at (by decide) : M21 73 j = _).trans ((fp20.at (by decide) : M19 73 j = _).trans ((f17 73 j (fun q => absurd q.1 (by decide))).trans ((f14 73 j (fun q => absurd q.1 (by decide))).trans ((f11 73 j (fun q => absurd q.1 (by decide))).trans ((f8 73 j (fun q => absurd q.1 (by decide))).trans ((f5 73 j (fun q => absurd q.1 (by decide))).trans (f2 73 j (fun q => absurd q.1 (by decide)))))))))))))))))) (fun j h => ((fp42.at (by decide) : M41 12 j = _).trans (fp40.at (by decide) : M39 12 j = _)).trans ((yp38 j h).trans ((fp36.at (by decide) : M35 74 j = _).trans ((fp34.at (by decide) : M33 74 j = _).trans ((fp32.at (by decide) : M31 74 j = _).trans ((fp30.at (by decide) : M29 74 j = _).trans ((fp28.at (by decide) : M27 74 j = _).trans ((fp26.at (by decide) : M25 74 j = _).trans ((fp24.at (by decide) : M23 74 j = _).trans ((fp22.at (by decide) : M21 74 j = _).trans ((fp20.at (by decide) : M19 74 j = _).trans ((f17 74 j (fun q => absurd q.1 (by decide))).trans ((f14 74 j (fun q => absurd q.1 (by decide))).trans ((f11 74 j (fun q => absurd q.1 (by decide))).trans ((f8 74 j (fun q => absurd q.1 (by decide))).trans ((f5 74 j (fun q => absurd q.1 (by decide))).trans (f2 74 j (fun q => absurd q.1 (by decide)))))))))))))))))))) (fun j h => ((fp42.at (by decide) : M41 5 j = _).trans ((fp40.at (by decide) : M39 5 j = _).trans ((fp38.at (by decide) : M37 5 j = _).trans ((fp36.at (by decide) : M35 5 j = _).trans ((fp34.at (by decide) : M33 5 j = _).trans ((fp32.at (by decide) : M31 5 j = _).trans ((fp30.at (by decide) : M29 5 j = _).trans ((fp28.at (by decide) : M27 5 j = _).trans (fp26.at (by decide) : M25 5 j = _))))))))).trans ((yp24 j h).trans ((fp22.at (by decide) : M21 67 j = _).trans ((fp20.at (by decide) : M19 67 j = _).trans ((f17 67 j (fun q => absurd q.1 (by decide))).trans ((f14 67 j (fun q => absurd q.1 (by decide))).trans ((f11 67 j (fun q => absurd q.1 (by decide))).trans ((f8 67 j (fun q => absurd q.1 (by decide))).trans ((f5 67 j (fun q => absurd q.1 (by decide))).trans (f2 67 j (fun q => absurd q.1 (by decide)))))))))))))⟩ dX9_copyFrom_180
set_option maxRecDepth 4000 in
theorem k_X7_load_35_80 (l : Launch) (M : Mem) (hJ : Iw M) (x1 : Int) (hx1a : (-2147483648) ≤ x1) (hx1b : x1 ≤ 2147483647) (hp0 : x1 % 34 = 0) : CV l yX7_load cX7_load 3 none 1 (fun ad => [.ref (ad 35), .ref (ad 80), ii x1]) M (fun M' => Fr [35, 36, 37, 38, 39] M M') := by
  obtain ⟨hI, hW⟩ := hJ
  have hF : Fr [35, 36, 37, 38, 39] M M := Fr.rf
  refine en_v (by decide +kernel) (fun ad => by exact Nat.le_of_ble_eq_true rfl) (fun D cy ad A p e s m args below meth c Q F hret => ?_)
  refine z_eq (ls' := [(0, .ref (ad 35)), (1, .ref (ad 80)), (2, ii x1)]) rfl rfl rfl ?_
  refine z_iload_n F dX7_load_0 rfl (q := 2) rfl ?_
  refine z_if_lt (tgt := 13) F dX7_load_1 (by decide +kernel) (by omega) (fun c1 => ?_) (fun c1 => ?_)
  · exact hret _ 13 _ ⟨hI, hW⟩ hF dX7_load_13
  · refine z_iload_n F dX7_load_4 rfl (q := 2) rfl ?_
    refine z_aload_n F dX7_load_5 rfl (q := 1) rfl ?_
    refine z_alen (x := 34) F gs_80 rfl rfl dX7_load_6 ?_
    refine z_bipush F dX7_load_7 (by decide +kernel) ?_
    refine z_isub F dX7_load_9 ?_
    refine z_icmp_le (tgt := 14) F dX7_load_10 (by decide +kernel) (by omega) (by omega) (fun c2 => ?_) (fun c2 => ?_)
    · refine z_aload_n F dX7_load_14 rfl (q := 1) rfl ?_
      refine z_iload_n F dX7_load_15 rfl (q := 2) rfl ?_
      refine z_aload_n F dX7_load_16 rfl (q := 0) rfl ?_
      refine rf_X7_9 F gs_35 rfl dX7_load_17 ?_
      refine z_iconst F dX7_load_20 ?_
      refine z_bipush F dX7_load_21 (by decide +kernel) ?_
      refine z_copy F (by decide) ac_X7_50 hI gs_80 gs_36 (by omega) (by omega) (by omega) (by omega) (by omega) (by decide) (by decide) (fun i hi => (show Bd 36 _ = (0, 9) from rfl).trans (show Bd 80 _ = (0, 9) from (bd_80.trans (sc_p (by omega)))).symm) (Nat.le_of_ble_eq_true rfl) dX7_load_23 (fun M4 hI g3 => ?_)
      have hF := hF.call g3 (by decide)
      have hW : WFk M4 := hW.fr g3 (by decide) (by decide)
      refine z_aload_n F dX7_load_26 rfl (q := 1) rfl ?_
      refine z_iload_n F dX7_load_27 rfl (q := 2) rfl ?_
      refine z_bipush F dX7_load_28 (by decide +kernel) ?_
      refine z_iadd F dX7_load_30 ?_
      refine z_aload_n F dX7_load_31 rfl (q := 0) rfl ?_
      refine rf_X7_15 F gs_35 rfl dX7_load_32 ?_
      refine z_iconst F dX7_load_35 ?_
      refine z_bipush F dX7_load_36 (by decide +kernel) ?_
      refine z_copy F (by decide) ac_X7_50 hI gs_80 gs_37 (by omega) (by omega) (by omega) (by omega) (by omega) (by decide) (by decide) (fun i hi => (show Bd 37 _ = (-2147483648, 2147483647) from rfl).trans (show Bd 80 _ = (-2147483648, 2147483647) from (bd_80.trans (sc_n (by omega)))).symm) (Nat.le_of_ble_eq_true rfl) dX7_load_38 (fun M6 hI g5 => ?_)
      have hF := hF.call g5 (by decide)
      have hW : WFk M6 := hW.fr g5 (by decide) (by decide)
      refine z_aload_n F dX7_load_41 rfl (q := 1) rfl ?_
      refine z_iload_n F dX7_load_42 rfl (q := 2) rfl ?_
      refine z_bipush F dX7_load_43 (by decide +kernel) ?_
      refine z_iadd F dX7_load_45 ?_
      refine z_aload_n F dX7_load_46 rfl (q := 0) rfl ?_
      refine rf_X7_18 F gs_35 rfl dX7_load_47 ?_
      refine z_iconst F dX7_load_50 ?_
      refine z_bipush F dX7_load_51 (by decide +kernel) ?_
      refine z_copy F (by decide) ac_X7_50 hI gs_80 gs_38 (by omega) (by omega) (by omega) (by omega) (by omega) (by decide) (by decide) (fun i hi => (show Bd 38 _ = (-2147483648, 2147483647) from rfl).trans (show Bd 80 _ = (-2147483648, 2147483647) from (bd_80.trans (sc_n (by omega)))).symm) (Nat.le_of_ble_eq_true rfl) dX7_load_53 (fun M8 hI g7 => ?_)
      have hF := hF.call g7 (by decide)
      have hW : WFk M8 := hW.fr g7 (by decide) (by decide)
      refine z_aload_n F dX7_load_56 rfl (q := 1) rfl ?_
      refine z_iload_n F dX7_load_57 rfl (q := 2) rfl ?_
      refine z_bipush F dX7_load_58 (by decide +kernel) ?_
      refine z_iadd F dX7_load_60 ?_
      refine z_aload_n F dX7_load_61 rfl (q := 0) rfl ?_
      refine rf_X7_21 F gs_35 rfl dX7_load_62 ?_
      refine z_iconst F dX7_load_65 ?_
      refine z_bipush F dX7_load_66 (by decide +kernel) ?_
      refine z_copy F (by decide) ac_X7_50 hI gs_80 gs_39 (by omega) (by omega) (by omega) (by omega) (by omega) (by decide) (by decide) (fun i hi => (show Bd 39 _ = (-2147483648, 2147483647) from rfl).trans (show Bd 80 _ = (-2147483648, 2147483647) from (bd_80.trans (sc_n (by omega)))).symm) (Nat.le_of_ble_eq_true rfl) dX7_load_68 (fun M10 hI g9 => ?_)
      have hF := hF.call g9 (by decide)
      have hW : WFk M10 := hW.fr g9 (by decide) (by decide)
      refine z_aload_n F dX7_load_71 rfl (q := 0) rfl ?_
      refine z_aload_n F dX7_load_72 rfl (q := 1) rfl ?_
      refine z_iload_n F dX7_load_73 rfl (q := 2) rfl ?_
      refine z_bipush F dX7_load_74 (by decide +kernel) ?_
      refine z_iadd F dX7_load_76 ?_
      refine z_iconst F dX7_load_77 ?_
      refine z_isub F dX7_load_78 ?_
      refine z_iald F hI gs_80 (by omega) (by omega) (by decide) (bd_80.trans (sc_n (by omega))) dX7_load_79 (fun v11 (ev11 : v11 = M10 80 _) av11 bv11 => ?_)
      refine pf_X7_44 F hI gs_35 rfl bd_35_5 rfl rfl dX7_load_80 (by omega) (by omega) (fun M13 hI sf12 f12 => ?_)
      have hF := hF.wr f12 (by decide) (by decide)
      have hW : WFk M13 := hW.site f12 (by decide)
      refine z_aload_n F dX7_load_83 rfl (q := 0) rfl ?_
      refine z_aload_n F dX7_load_84 rfl (q := 1) rfl ?_
      refine z_iload_n F dX7_load_85 rfl (q := 2) rfl ?_
      refine z_bipush F dX7_load_86 (by decide +kernel) ?_
      refine z_iadd F dX7_load_88 ?_
      refine z_iconst F dX7_load_89 ?_
      refine z_isub F dX7_load_90 ?_
      refine z_iald F hI gs_80 (by omega) (by omega) (by decide) (bd_80.trans (sc_n (by omega))) dX7_load_91 (fun v14 (ev14 : v14 = M13 80 _) av14 bv14 => ?_)
      refine pf_X7_47 F hI gs_35 rfl bd_35_6 rfl rfl dX7_load_92 (by omega) (by omega) (fun M16 hI sf15 f15 => ?_)
      have hF := hF.wr f15 (by decide) (by decide)
      have hW : WFk M16 := hW.site f15 (by decide)
      exact hret _ 95 _ ⟨hI, hW⟩ hF dX7_load_95
    · exact hret _ 13 _ ⟨hI, hW⟩ hF dX7_load_13
set_option maxRecDepth 4000 in
theorem k_X4_copyFrom_40_81 (l : Launch) (M : Mem) (hJ : Iw M) : CV l yX4_copyFrom cX4_copyFrom 2 none 1 (fun ad => [.ref (ad 40), .ref (ad 81)]) M (fun M' => Fr [40, 41] M M') := by
  obtain ⟨hI, hW⟩ := hJ
  have hF : Fr [40, 41] M M := Fr.rf
  refine en_v (by decide +kernel) (fun ad => by exact Nat.le_of_ble_eq_true rfl) (fun D cy ad A p e s m args below meth c Q F hret => ?_)
  refine z_eq (ls' := [(0, .ref (ad 40)), (1, .ref (ad 81))]) rfl rfl rfl ?_
  refine z_aload_n F dX4_copyFrom_0 rfl (q := 0) rfl ?_
  refine z_aload_n F dX4_copyFrom_1 rfl (q := 1) rfl ?_
  refine gf_X4_17 F hI gs_81 rfl bd_81_0 dX4_copyFrom_2 (fun v1 ev1 av1 bv1 => ?_)
  refine pf_X4_17 F hI gs_40 rfl bd_40_0 rfl rfl dX4_copyFrom_5 (by omega) (by omega) (fun M3 hI sf2 f2 => ?_)
  have hF := hF.wr f2 (by decide) (by decide)
  have hW : WFk M3 := hW.site f2 (by decide)
  refine z_aload_n F dX4_copyFrom_8 rfl (q := 0) rfl ?_
  refine z_aload_n F dX4_copyFrom_9 rfl (q := 1) rfl ?_
  refine gf_X4_21 F hI gs_81 rfl bd_81_1 dX4_copyFrom_10 (fun v4 ev4 av4 bv4 => ?_)
  refine pf_X4_21 F hI gs_40 rfl bd_40_1 rfl rfl dX4_copyFrom_13 (by omega) (by omega) (fun M6 hI sf5 f5 => ?_)
  have hF := hF.wr f5 (by decide) (by decide)
  have hW : WFk M6 := hW.site f5 (by decide)
  refine z_aload_n F dX4_copyFrom_16 rfl (q := 1) rfl ?_
  refine rf_X4_11 F gs_81 rfl dX4_copyFrom_17 ?_
  refine z_iconst F dX4_copyFrom_20 ?_
  refine z_aload_n F dX4_copyFrom_21 rfl (q := 0) rfl ?_
  refine rf_X4_11 F gs_40 rfl dX4_copyFrom_22 ?_
  refine z_iconst F dX4_copyFrom_25 ?_
  refine z_aload_n F dX4_copyFrom_26 rfl (q := 0) rfl ?_
  refine rf_X4_11 F gs_40 rfl dX4_copyFrom_27 ?_
  refine z_alen (x := 408) F gs_41 rfl rfl dX4_copyFrom_30 ?_
  refine z_copy F (by decide) ac_X4_40 hI gs_82 gs_41 (by omega) (by omega) (by omega) (by omega) (by omega) (by decide) (by decide) (fun i hi => rfl) (Nat.le_of_ble_eq_true rfl) dX4_copyFrom_31 (fun M8 hI g7 => ?_)
  have hF := hF.call g7 (by decide)
  have hW : WFk M8 := hW.fr g7 (by decide) (by decide)
  exact hret _ 34 _ ⟨hI, hW⟩ hF dX4_copyFrom_34
set_option maxRecDepth 4000 in
theorem k_X1_giveBack_63_2_35_40 (l : Launch) (M : Mem) (hJ : Iw M) : CV l yX1_giveBack cX1_giveBack 4 none 3 (fun ad => [.ref (ad 63), .ref (ad 2), .ref (ad 35), .ref (ad 40)]) M (fun M' => Fr [2, 3, 4, 5, 6, 7, 8, 9, 10, 11, 12, 13, 14, 15, 35, 36, 37, 38, 39, 40, 41] M M' ∧ (Cp 64 2 M M')) := by
  obtain ⟨hI, hW⟩ := hJ
  have hF : Fr [2, 3, 4, 5, 6, 7, 8, 9, 10, 11, 12, 13, 14, 15, 35, 36, 37, 38, 39, 40, 41] M M := Fr.rf
  refine en_v (by decide +kernel) (fun ad => by exact Nat.le_of_ble_eq_true rfl) (fun D cy ad A p e s m args below meth c Q F hret => ?_)
  refine z_eq (ls' := [(0, .ref (ad 63)), (1, .ref (ad 2)), (2, .ref (ad 35)), (3, .ref (ad 40))]) rfl rfl rfl ?_
  refine z_aload_n F dX1_giveBack_0 rfl (q := 1) rfl ?_
  refine z_aload_n F dX1_giveBack_1 rfl (q := 0) rfl ?_
  refine rf_X1_10 F gs_63 rfl dX1_giveBack_2 ?_
  refine zv_v (rest := []) F (k_X9_copyFrom_2_64 l M ⟨hI, hW⟩) cs_X1_33 (T := TX9) (N := 18) (ci := 9) rfl gs_2 (by decide) (by decide) rfl rfl rfl (Nat.le_of_ble_eq_true rfl) dX1_giveBack_5 (fun M1 hI p2 => ?_)
  obtain ⟨hI, hW⟩ := hI
  obtain ⟨fp2, xp2, yp2⟩ := p2
  have hF := hF.call fp2 (by decide)
  refine z_aload_n F dX1_giveBack_8 rfl (q := 2) rfl ?_
  refine z_aload_n F dX1_giveBack_9 rfl (q := 0) rfl ?_
  refine rf_X1_18 F gs_63 rfl dX1_giveBack_10 ?_
  refine z_iconst F dX1_giveBack_13 ?_
  refine zv_v (rest := []) F (k_X7_load_35_80 l M1 ⟨hI, hW⟩ 0 (by omega) (by omega) (by omega)) cs_X1_44 (T := TX7) (N := 7) (ci := 7) rfl gs_35 (by decide) (by decide) rfl rfl rfl (Nat.le_of_ble_eq_true rfl) dX1_giveBack_14 (fun M3 hI p4 => ?_)
  obtain ⟨hI, hW⟩ := hI
  have fp4 := p4
  have hF := hF.call fp4 (by decide)
  refine z_aload_n F dX1_giveBack_17 rfl (q := 3) rfl ?_
  refine z_aload_n F dX1_giveBack_18 rfl (q := 0) rfl ?_
  refine rf_X1_25 F gs_63 rfl dX1_giveBack_19 ?_
  refine zv_v (rest := []) F (k_X4_copyFrom_40_81 l M3 ⟨hI, hW⟩) cs_X1_41 (T := TX4) (N := 3) (ci := 4) rfl gs_40 (by decide) (by decide) rfl rfl rfl (Nat.le_of_ble_eq_true rfl) dX1_giveBack_22 (fun M5 hI p6 => ?_)
  obtain ⟨hI, hW⟩ := hI
  have fp6 := p6
  have hF := hF.call fp6 (by decide)
  exact hret _ 25 _ ⟨hI, hW⟩ ⟨hF, (cp_tr (cp_rf : Cp 64 64 M M) (cp_tr yp2 (cp_tr (cp_fr fp4 (by decide) (by decide) : Cp 2 2 M1 M3) (cp_fr fp6 (by decide) (by decide) : Cp 2 2 M3 M5))))⟩ dX1_giveBack_25
set_option maxRecDepth 4000 in
theorem k_X9_copy_85_3 (l : Launch) (M : Mem) (hJ : Iw M) : CV l yX9_copy cX9_copy 2 none 1 (fun ad => [.ref (ad 85), .ref (ad 3)]) M (fun M' => Fr [3] M M' ∧ (∀ j : Nat, j < 10 → M' 3 j = M 85 j)) := by
  obtain ⟨hI, hW⟩ := hJ
  have hF : Fr [3] M M := Fr.rf
  refine en_v (by decide +kernel) (fun ad => by exact Nat.le_of_ble_eq_true rfl) (fun D cy ad A p e s m args below meth c Q F hret => ?_)
  refine z_eq (ls' := [(0, .ref (ad 85)), (1, .ref (ad 3))]) rfl rfl rfl ?_
  refine z_aload_n F dX9_copy_0 rfl (q := 0) rfl ?_
  refine z_iconst F dX9_copy_1 ?_
  refine z_aload_n F dX9_copy_2 rfl (q := 1) rfl ?_
  refine z_iconst F dX9_copy_3 ?_
  refine z_aload_n F dX9_copy_4 rfl (q := 0) rfl ?_
  refine z_alen (x := 10) F gs_85 rfl rfl dX9_copy_5 ?_
  refine z_aload_n F dX9_copy_6 rfl (q := 1) rfl ?_
  refine z_alen (x := 10) F gs_3 rfl rfl dX9_copy_7 ?_
  refine z_min F mm_X9_85 (Nat.le_of_ble_eq_true rfl) dX9_copy_8 (by omega) (by omega) (fun v1 ev1 => ?_)
  refine z_copyE F (by decide) ac_X9_91 hI gs_85 gs_3 (by omega) (by omega) (by omega) (by omega) (by omega) (by decide) (by decide) (fun i hi => rfl) (Nat.le_of_ble_eq_true rfl) dX9_copy_11 (fun M3 hI g2 kg2 => ?_)
  have hF := hF.call g2 (by decide)
  have hW : WFk M3 := hW.fr g2 (by decide) (by decide)
  exact hret _ 14 _ ⟨hI, hW⟩ ⟨hF, (cp_at (f := M3 3) (g := M 85) (h := M 3) 10 kg2 (by omega))⟩ dX9_copy_14
set_option maxRecDepth 4000 in
theorem k_X9_copy_86_4 (l : Launch) (M : Mem) (hJ : Iw M) : CV l yX9_copy cX9_copy 2 none 1 (fun ad => [.ref (ad 86), .ref (ad 4)]) M (fun M' => Fr [4] M M' ∧ (∀ j : Nat, j < 10 → M' 4 j = M 86 j)) := by
  obtain ⟨hI, hW⟩ := hJ
  have hF : Fr [4] M M := Fr.rf
  refine en_v (by decide +kernel) (fun ad => by exact Nat.le_of_ble_eq_true rfl) (fun D cy ad A p e s m args below meth c Q F hret => ?_)
  refine z_eq (ls' := [(0, .ref (ad 86)), (1, .ref (ad 4))]) rfl rfl rfl ?_
  refine z_aload_n F dX9_copy_0 rfl (q := 0) rfl ?_
  refine z_iconst F dX9_copy_1 ?_
  refine z_aload_n F dX9_copy_2 rfl (q := 1) rfl ?_
  refine z_iconst F dX9_copy_3 ?_
  refine z_aload_n F dX9_copy_4 rfl (q := 0) rfl ?_
  refine z_alen (x := 10) F gs_86 rfl rfl dX9_copy_5 ?_
  refine z_aload_n F dX9_copy_6 rfl (q := 1) rfl ?_
  refine z_alen (x := 10) F gs_4 rfl rfl dX9_copy_7 ?_
  refine z_min F mm_X9_85 (Nat.le_of_ble_eq_true rfl) dX9_copy_8 (by omega) (by omega) (fun v1 ev1 => ?_)
  refine z_copyE F (by decide) ac_X9_91 hI gs_86 gs_4 (by omega) (by omega) (by omega) (by omega) (by omega) (by decide) (by decide) (fun i hi => rfl) (Nat.le_of_ble_eq_true rfl) dX9_copy_11 (fun M3 hI g2 kg2 => ?_)
  have hF := hF.call g2 (by decide)
  have hW : WFk M3 := hW.fr g2 (by decide) (by decide)
  exact hret _ 14 _ ⟨hI, hW⟩ ⟨hF, (cp_at (f := M3 4) (g := M 86) (h := M 4) 10 kg2 (by omega))⟩ dX9_copy_14
set_option maxRecDepth 4000 in
theorem k_X9_copy_87_5 (l : Launch) (M : Mem) (hJ : Iw M) : CV l yX9_copy cX9_copy 2 none 1 (fun ad => [.ref (ad 87), .ref (ad 5)]) M (fun M' => Fr [5] M M' ∧ (∀ j : Nat, j < 100 → M' 5 j = M 87 j)) := by
  obtain ⟨hI, hW⟩ := hJ
  have hF : Fr [5] M M := Fr.rf
  refine en_v (by decide +kernel) (fun ad => by exact Nat.le_of_ble_eq_true rfl) (fun D cy ad A p e s m args below meth c Q F hret => ?_)
  refine z_eq (ls' := [(0, .ref (ad 87)), (1, .ref (ad 5))]) rfl rfl rfl ?_
  refine z_aload_n F dX9_copy_0 rfl (q := 0) rfl ?_
  refine z_iconst F dX9_copy_1 ?_
  refine z_aload_n F dX9_copy_2 rfl (q := 1) rfl ?_
  refine z_iconst F dX9_copy_3 ?_
  refine z_aload_n F dX9_copy_4 rfl (q := 0) rfl ?_
  refine z_alen (x := 100) F gs_87 rfl rfl dX9_copy_5 ?_
  refine z_aload_n F dX9_copy_6 rfl (q := 1) rfl ?_
  refine z_alen (x := 100) F gs_5 rfl rfl dX9_copy_7 ?_
  refine z_min F mm_X9_85 (Nat.le_of_ble_eq_true rfl) dX9_copy_8 (by omega) (by omega) (fun v1 ev1 => ?_)
  refine z_copyE F (by decide) ac_X9_91 hI gs_87 gs_5 (by omega) (by omega) (by omega) (by omega) (by omega) (by decide) (by decide) (fun i hi => rfl) (Nat.le_of_ble_eq_true rfl) dX9_copy_11 (fun M3 hI g2 kg2 => ?_)
  have hF := hF.call g2 (by decide)
  have hW : WFk M3 := hW.fr g2 (by decide) (by decide)
  exact hret _ 14 _ ⟨hI, hW⟩ ⟨hF, (cp_at (f := M3 5) (g := M 87) (h := M 5) 100 kg2 (by omega))⟩ dX9_copy_14
set_option maxRecDepth 4000 in
theorem k_X9_copy_88_6 (l : Launch) (M : Mem) (hJ : Iw M) : CV l yX9_copy cX9_copy 2 none 1 (fun ad => [.ref (ad 88), .ref (ad 6)]) M (fun M' => Fr [6] M M' ∧ (∀ j : Nat, j < 8 → M' 6 j = M 88 j)) := by
  obtain ⟨hI, hW⟩ := hJ
  have hF : Fr [6] M M := Fr.rf
  refine en_v (by decide +kernel) (fun ad => by exact Nat.le_of_ble_eq_true rfl) (fun D cy ad A p e s m args below meth c Q F hret => ?_)
  refine z_eq (ls' := [(0, .ref (ad 88)), (1, .ref (ad 6))]) rfl rfl rfl ?_
  refine z_aload_n F dX9_copy_0 rfl (q := 0) rfl ?_
  refine z_iconst F dX9_copy_1 ?_
  refine z_aload_n F dX9_copy_2 rfl (q := 1) rfl ?_
  refine z_iconst F dX9_copy_3 ?_
  refine z_aload_n F dX9_copy_4 rfl (q := 0) rfl ?_
  refine z_alen (x := 8) F gs_88 rfl rfl dX9_copy_5 ?_
  refine z_aload_n F dX9_copy_6 rfl (q := 1) rfl ?_
  refine z_alen (x := 8) F gs_6 rfl rfl dX9_copy_7 ?_
  refine z_min F mm_X9_85 (Nat.le_of_ble_eq_true rfl) dX9_copy_8 (by omega) (by omega) (fun v1 ev1 => ?_)
  refine z_copyE F (by decide) ac_X9_91 hI gs_88 gs_6 (by omega) (by omega) (by omega) (by omega) (by omega) (by decide) (by decide) (fun i hi => rfl) (Nat.le_of_ble_eq_true rfl) dX9_copy_11 (fun M3 hI g2 kg2 => ?_)
  have hF := hF.call g2 (by decide)
  have hW : WFk M3 := hW.fr g2 (by decide) (by decide)
  exact hret _ 14 _ ⟨hI, hW⟩ ⟨hF, (cp_at (f := M3 6) (g := M 88) (h := M 6) 8 kg2 (by omega))⟩ dX9_copy_14
set_option maxRecDepth 4000 in
theorem k_X9_copy_89_7 (l : Launch) (M : Mem) (hJ : Iw M) : CV l yX9_copy cX9_copy 2 none 1 (fun ad => [.ref (ad 89), .ref (ad 7)]) M (fun M' => Fr [7] M M' ∧ (∀ j : Nat, j < 8 → M' 7 j = M 89 j)) := by
  obtain ⟨hI, hW⟩ := hJ
  have hF : Fr [7] M M := Fr.rf
  refine en_v (by decide +kernel) (fun ad => by exact Nat.le_of_ble_eq_true rfl) (fun D cy ad A p e s m args below meth c Q F hret => ?_)
  refine z_eq (ls' := [(0, .ref (ad 89)), (1, .ref (ad 7))]) rfl rfl rfl ?_
  refine z_aload_n F dX9_copy_0 rfl (q := 0) rfl ?_
  refine z_iconst F dX9_copy_1 ?_
  refine z_aload_n F dX9_copy_2 rfl (q := 1) rfl ?_
  refine z_iconst F dX9_copy_3 ?_
  refine z_aload_n F dX9_copy_4 rfl (q := 0) rfl ?_
  refine z_alen (x := 8) F gs_89 rfl rfl dX9_copy_5 ?_
  refine z_aload_n F dX9_copy_6 rfl (q := 1) rfl ?_
  refine z_alen (x := 8) F gs_7 rfl rfl dX9_copy_7 ?_
  refine z_min F mm_X9_85 (Nat.le_of_ble_eq_true rfl) dX9_copy_8 (by omega) (by omega) (fun v1 ev1 => ?_)
  refine z_copyE F (by decide) ac_X9_91 hI gs_89 gs_7 (by omega) (by omega) (by omega) (by omega) (by omega) (by decide) (by decide) (fun i hi => rfl) (Nat.le_of_ble_eq_true rfl) dX9_copy_11 (fun M3 hI g2 kg2 => ?_)
  have hF := hF.call g2 (by decide)
  have hW : WFk M3 := hW.fr g2 (by decide) (by decide)
  exact hret _ 14 _ ⟨hI, hW⟩ ⟨hF, (cp_at (f := M3 7) (g := M 89) (h := M 7) 8 kg2 (by omega))⟩ dX9_copy_14
set_option maxRecDepth 4000 in
theorem k_X9_copy_90_8 (l : Launch) (M : Mem) (hJ : Iw M) : CV l yX9_copy cX9_copy 2 none 1 (fun ad => [.ref (ad 90), .ref (ad 8)]) M (fun M' => Fr [8] M M' ∧ (∀ j : Nat, j < 8 → M' 8 j = M 90 j)) := by
  obtain ⟨hI, hW⟩ := hJ
  have hF : Fr [8] M M := Fr.rf
  refine en_v (by decide +kernel) (fun ad => by exact Nat.le_of_ble_eq_true rfl) (fun D cy ad A p e s m args below meth c Q F hret => ?_)
  refine z_eq (ls' := [(0, .ref (ad 90)), (1, .ref (ad 8))]) rfl rfl rfl ?_
  refine z_aload_n F dX9_copy_0 rfl (q := 0) rfl ?_
  refine z_iconst F dX9_copy_1 ?_
  refine z_aload_n F dX9_copy_2 rfl (q := 1) rfl ?_
  refine z_iconst F dX9_copy_3 ?_
  refine z_aload_n F dX9_copy_4 rfl (q := 0) rfl ?_
  refine z_alen (x := 8) F gs_90 rfl rfl dX9_copy_5 ?_
  refine z_aload_n F dX9_copy_6 rfl (q := 1) rfl ?_
  refine z_alen (x := 8) F gs_8 rfl rfl dX9_copy_7 ?_
  refine z_min F mm_X9_85 (Nat.le_of_ble_eq_true rfl) dX9_copy_8 (by omega) (by omega) (fun v1 ev1 => ?_)
  refine z_copyE F (by decide) ac_X9_91 hI gs_90 gs_8 (by omega) (by omega) (by omega) (by omega) (by omega) (by decide) (by decide) (fun i hi => rfl) (Nat.le_of_ble_eq_true rfl) dX9_copy_11 (fun M3 hI g2 kg2 => ?_)
  have hF := hF.call g2 (by decide)
  have hW : WFk M3 := hW.fr g2 (by decide) (by decide)
  exact hret _ 14 _ ⟨hI, hW⟩ ⟨hF, (cp_at (f := M3 8) (g := M 90) (h := M 8) 8 kg2 (by omega))⟩ dX9_copy_14
set_option maxRecDepth 4000 in
theorem k_X9_copy_91_9 (l : Launch) (M : Mem) (hJ : Iw M) : CV l yX9_copy cX9_copy 2 none 1 (fun ad => [.ref (ad 91), .ref (ad 9)]) M (fun M' => Fr [9] M M' ∧ (∀ j : Nat, j < 8 → M' 9 j = M 91 j)) := by
  obtain ⟨hI, hW⟩ := hJ
  have hF : Fr [9] M M := Fr.rf
  refine en_v (by decide +kernel) (fun ad => by exact Nat.le_of_ble_eq_true rfl) (fun D cy ad A p e s m args below meth c Q F hret => ?_)
  refine z_eq (ls' := [(0, .ref (ad 91)), (1, .ref (ad 9))]) rfl rfl rfl ?_
  refine z_aload_n F dX9_copy_0 rfl (q := 0) rfl ?_
  refine z_iconst F dX9_copy_1 ?_
  refine z_aload_n F dX9_copy_2 rfl (q := 1) rfl ?_
  refine z_iconst F dX9_copy_3 ?_
  refine z_aload_n F dX9_copy_4 rfl (q := 0) rfl ?_
  refine z_alen (x := 8) F gs_91 rfl rfl dX9_copy_5 ?_
  refine z_aload_n F dX9_copy_6 rfl (q := 1) rfl ?_
  refine z_alen (x := 8) F gs_9 rfl rfl dX9_copy_7 ?_
  refine z_min F mm_X9_85 (Nat.le_of_ble_eq_true rfl) dX9_copy_8 (by omega) (by omega) (fun v1 ev1 => ?_)
  refine z_copyE F (by decide) ac_X9_91 hI gs_91 gs_9 (by omega) (by omega) (by omega) (by omega) (by omega) (by decide) (by decide) (fun i hi => rfl) (Nat.le_of_ble_eq_true rfl) dX9_copy_11 (fun M3 hI g2 kg2 => ?_)
  have hF := hF.call g2 (by decide)
  have hW : WFk M3 := hW.fr g2 (by decide) (by decide)
  exact hret _ 14 _ ⟨hI, hW⟩ ⟨hF, (cp_at (f := M3 9) (g := M 91) (h := M 9) 8 kg2 (by omega))⟩ dX9_copy_14
set_option maxRecDepth 4000 in
theorem k_X9_copy_92_10 (l : Launch) (M : Mem) (hJ : Iw M) : CV l yX9_copy cX9_copy 2 none 1 (fun ad => [.ref (ad 92), .ref (ad 10)]) M (fun M' => Fr [10] M M' ∧ (∀ j : Nat, j < 6 → M' 10 j = M 92 j)) := by
  obtain ⟨hI, hW⟩ := hJ
  have hF : Fr [10] M M := Fr.rf
  refine en_v (by decide +kernel) (fun ad => by exact Nat.le_of_ble_eq_true rfl) (fun D cy ad A p e s m args below meth c Q F hret => ?_)
  refine z_eq (ls' := [(0, .ref (ad 92)), (1, .ref (ad 10))]) rfl rfl rfl ?_
  refine z_aload_n F dX9_copy_0 rfl (q := 0) rfl ?_
  refine z_iconst F dX9_copy_1 ?_
  refine z_aload_n F dX9_copy_2 rfl (q := 1) rfl ?_
  refine z_iconst F dX9_copy_3 ?_
  refine z_aload_n F dX9_copy_4 rfl (q := 0) rfl ?_
  refine z_alen (x := 6) F gs_92 rfl rfl dX9_copy_5 ?_
  refine z_aload_n F dX9_copy_6 rfl (q := 1) rfl ?_
  refine z_alen (x := 6) F gs_10 rfl rfl dX9_copy_7 ?_
  refine z_min F mm_X9_85 (Nat.le_of_ble_eq_true rfl) dX9_copy_8 (by omega) (by omega) (fun v1 ev1 => ?_)
  refine z_copyE F (by decide) ac_X9_91 hI gs_92 gs_10 (by omega) (by omega) (by omega) (by omega) (by omega) (by decide) (by decide) (fun i hi => rfl) (Nat.le_of_ble_eq_true rfl) dX9_copy_11 (fun M3 hI g2 kg2 => ?_)
  have hF := hF.call g2 (by decide)
  have hW : WFk M3 := hW.fr g2 (by decide) (by decide)
  exact hret _ 14 _ ⟨hI, hW⟩ ⟨hF, (cp_at (f := M3 10) (g := M 92) (h := M 10) 6 kg2 (by omega))⟩ dX9_copy_14
set_option maxRecDepth 4000 in
theorem k_X9_copy_93_11 (l : Launch) (M : Mem) (hJ : Iw M) : CV l yX9_copy cX9_copy 2 none 1 (fun ad => [.ref (ad 93), .ref (ad 11)]) M (fun M' => Fr [11] M M' ∧ (∀ j : Nat, j < 6 → M' 11 j = M 93 j)) := by
  obtain ⟨hI, hW⟩ := hJ
  have hF : Fr [11] M M := Fr.rf
  refine en_v (by decide +kernel) (fun ad => by exact Nat.le_of_ble_eq_true rfl) (fun D cy ad A p e s m args below meth c Q F hret => ?_)
  refine z_eq (ls' := [(0, .ref (ad 93)), (1, .ref (ad 11))]) rfl rfl rfl ?_
  refine z_aload_n F dX9_copy_0 rfl (q := 0) rfl ?_
  refine z_iconst F dX9_copy_1 ?_
  refine z_aload_n F dX9_copy_2 rfl (q := 1) rfl ?_
  refine z_iconst F dX9_copy_3 ?_
  refine z_aload_n F dX9_copy_4 rfl (q := 0) rfl ?_
  refine z_alen (x := 6) F gs_93 rfl rfl dX9_copy_5 ?_
  refine z_aload_n F dX9_copy_6 rfl (q := 1) rfl ?_
  refine z_alen (x := 6) F gs_11 rfl rfl dX9_copy_7 ?_
  refine z_min F mm_X9_85 (Nat.le_of_ble_eq_true rfl) dX9_copy_8 (by omega) (by omega) (fun v1 ev1 => ?_)
  refine z_copyE F (by decide) ac_X9_91 hI gs_93 gs_11 (by omega) (by omega) (by omega) (by omega) (by omega) (by decide) (by decide) (fun i hi => rfl) (Nat.le_of_ble_eq_true rfl) dX9_copy_11 (fun M3 hI g2 kg2 => ?_)
  have hF := hF.call g2 (by decide)
  have hW : WFk M3 := hW.fr g2 (by decide) (by decide)
  exact hret _ 14 _ ⟨hI, hW⟩ ⟨hF, (cp_at (f := M3 11) (g := M 93) (h := M 11) 6 kg2 (by omega))⟩ dX9_copy_14
set_option maxRecDepth 4000 in
theorem k_X9_copy_94_12 (l : Launch) (M : Mem) (hJ : Iw M) : CV l yX9_copy cX9_copy 2 none 1 (fun ad => [.ref (ad 94), .ref (ad 12)]) M (fun M' => Fr [12] M M' ∧ (∀ j : Nat, j < 6 → M' 12 j = M 94 j)) := by
  obtain ⟨hI, hW⟩ := hJ
  have hF : Fr [12] M M := Fr.rf
  refine en_v (by decide +kernel) (fun ad => by exact Nat.le_of_ble_eq_true rfl) (fun D cy ad A p e s m args below meth c Q F hret => ?_)
  refine z_eq (ls' := [(0, .ref (ad 94)), (1, .ref (ad 12))]) rfl rfl rfl ?_
  refine z_aload_n F dX9_copy_0 rfl (q := 0) rfl ?_
  refine z_iconst F dX9_copy_1 ?_
  refine z_aload_n F dX9_copy_2 rfl (q := 1) rfl ?_
  refine z_iconst F dX9_copy_3 ?_
  refine z_aload_n F dX9_copy_4 rfl (q := 0) rfl ?_
  refine z_alen (x := 6) F gs_94 rfl rfl dX9_copy_5 ?_
  refine z_aload_n F dX9_copy_6 rfl (q := 1) rfl ?_
  refine z_alen (x := 6) F gs_12 rfl rfl dX9_copy_7 ?_
  refine z_min F mm_X9_85 (Nat.le_of_ble_eq_true rfl) dX9_copy_8 (by omega) (by omega) (fun v1 ev1 => ?_)
  refine z_copyE F (by decide) ac_X9_91 hI gs_94 gs_12 (by omega) (by omega) (by omega) (by omega) (by omega) (by decide) (by decide) (fun i hi => rfl) (Nat.le_of_ble_eq_true rfl) dX9_copy_11 (fun M3 hI g2 kg2 => ?_)
  have hF := hF.call g2 (by decide)
  have hW : WFk M3 := hW.fr g2 (by decide) (by decide)
  exact hret _ 14 _ ⟨hI, hW⟩ ⟨hF, (cp_at (f := M3 12) (g := M 94) (h := M 12) 6 kg2 (by omega))⟩ dX9_copy_14
set_option maxRecDepth 4000 in
theorem k_X9_copy_95_13 (l : Launch) (M : Mem) (hJ : Iw M) : CV l yX9_copy cX9_copy 2 none 1 (fun ad => [.ref (ad 95), .ref (ad 13)]) M (fun M' => Fr [13] M M' ∧ (∀ j : Nat, j < 6 → M' 13 j = M 95 j)) := by
  obtain ⟨hI, hW⟩ := hJ
  have hF : Fr [13] M M := Fr.rf
  refine en_v (by decide +kernel) (fun ad => by exact Nat.le_of_ble_eq_true rfl) (fun D cy ad A p e s m args below meth c Q F hret => ?_)
  refine z_eq (ls' := [(0, .ref (ad 95)), (1, .ref (ad 13))]) rfl rfl rfl ?_
  refine z_aload_n F dX9_copy_0 rfl (q := 0) rfl ?_
  refine z_iconst F dX9_copy_1 ?_
  refine z_aload_n F dX9_copy_2 rfl (q := 1) rfl ?_
  refine z_iconst F dX9_copy_3 ?_
  refine z_aload_n F dX9_copy_4 rfl (q := 0) rfl ?_
  refine z_alen (x := 6) F gs_95 rfl rfl dX9_copy_5 ?_
  refine z_aload_n F dX9_copy_6 rfl (q := 1) rfl ?_
  refine z_alen (x := 6) F gs_13 rfl rfl dX9_copy_7 ?_
  refine z_min F mm_X9_85 (Nat.le_of_ble_eq_true rfl) dX9_copy_8 (by omega) (by omega) (fun v1 ev1 => ?_)
  refine z_copyE F (by decide) ac_X9_91 hI gs_95 gs_13 (by omega) (by omega) (by omega) (by omega) (by omega) (by decide) (by decide) (fun i hi => rfl) (Nat.le_of_ble_eq_true rfl) dX9_copy_11 (fun M3 hI g2 kg2 => ?_)
  have hF := hF.call g2 (by decide)
  have hW : WFk M3 := hW.fr g2 (by decide) (by decide)
  exact hret _ 14 _ ⟨hI, hW⟩ ⟨hF, (cp_at (f := M3 13) (g := M 95) (h := M 13) 6 kg2 (by omega))⟩ dX9_copy_14
set_option maxRecDepth 4000 in
theorem k_X2_copyFrom_14_96 (l : Launch) (M : Mem) (hJ : Iw M) : CV l yX2_copyFrom cX2_copyFrom 2 none 1 (fun ad => [.ref (ad 14), .ref (ad 96)]) M (fun M' => Fr [14, 15] M M') := by
  obtain ⟨hI, hW⟩ := hJ
  have hF : Fr [14, 15] M M := Fr.rf
  refine en_v (by decide +kernel) (fun ad => by exact Nat.le_of_ble_eq_true rfl) (fun D cy ad A p e s m args below meth c Q F hret => ?_)
  refine z_eq (ls' := [(0, .ref (ad 14)), (1, .ref (ad 96))]) rfl rfl rfl ?_
  refine z_aload_n F dX2_copyFrom_0 rfl (q := 0) rfl ?_
  refine z_aload_n F dX2_copyFrom_1 rfl (q := 1) rfl ?_
  refine gf_X2_15 F hI gs_96 rfl bd_96_2 dX2_copyFrom_2 (fun v1 ev1 av1 bv1 => ?_)
  refine pf_X2_15 F hI gs_14 rfl bd_14_2 rfl rfl dX2_copyFrom_5 (by omega) (by omega) (fun M3 hI sf2 f2 => ?_)
  have hF := hF.wr f2 (by decide) (by decide)
  have hW : WFk M3 := hW.site f2 (by decide)
  refine z_aload_n F dX2_copyFrom_8 rfl (q := 0) rfl ?_
  refine z_aload_n F dX2_copyFrom_9 rfl (q := 1) rfl ?_
  refine gf_X2_25 F hI gs_96 rfl bd_96_1 dX2_copyFrom_10 (fun v4 ev4 av4 bv4 => ?_)
  refine pf_X2_25 F hI gs_14 rfl bd_14_1 rfl rfl dX2_copyFrom_13 (by omega) (by omega) (fun M6 hI sf5 f5 => ?_)
  have hF := hF.wr f5 (by decide) (by decide)
  have hW : WFk M6 := hW.site f5 (by decide)
  refine z_aload_n F dX2_copyFrom_16 rfl (q := 1) rfl ?_
  refine rf_X2_9 F gs_96 rfl dX2_copyFrom_17 ?_
  refine z_iconst F dX2_copyFrom_20 ?_
  refine z_aload_n F dX2_copyFrom_21 rfl (q := 0) rfl ?_
  refine rf_X2_9 F gs_14 rfl dX2_copyFrom_22 ?_
  refine z_iconst F dX2_copyFrom_25 ?_
  refine z_aload_n F dX2_copyFrom_26 rfl (q := 1) rfl ?_
  refine gf_X2_25 F hI gs_96 rfl bd_96_1 dX2_copyFrom_27 (fun v7 ev7 av7 bv7 => ?_)
  have q8 : v4 = M6 96 1 := ev4.trans (f5 96 1 (fun q => absurd q.1 (by decide))).symm
  have zv7 : v4 = v7 := q8.trans ev7.symm
  subst zv7
  refine z_copy F (by decide) ac_X2_28 hI gs_97 gs_15 (by omega) (by omega) (by omega) (by omega) (by omega) (by decide) (by decide) (fun i hi => rfl) (Nat.le_of_ble_eq_true rfl) dX2_copyFrom_30 (fun M10 hI g9 => ?_)
  have hF := hF.call g9 (by decide)
  have hW : WFk M10 := hW.fr g9 (by decide) (by decide)
  exact hret _ 33 _ ⟨hI, hW⟩ hF dX2_copyFrom_33
set_option maxRecDepth 4000 in
theorem k_X9_copyFrom_2_84 (l : Launch) (M : Mem) (hJ : Iw M) : CV l yX9_copyFrom cX9_copyFrom 2 none 2 (fun ad => [.ref (ad 2), .ref (ad 84)]) M (fun M' => Fr [2, 3, 4, 5, 6, 7, 8, 9, 10, 11, 12, 13, 14, 15] M M' ∧ (M' 2 0 = M 84 0) ∧ (Cp 84 2 M M')) := by
  obtain ⟨hI, hW⟩ := hJ
  have hF : Fr [2, 3, 4, 5, 6, 7, 8, 9, 10, 11, 12, 13, 14, 15] M M := Fr.rf
  have hI0 := hI
  have hW0 := hW
  refine en_v (by decide +kernel) (fun ad => by exact Nat.le_of_ble_eq_true rfl) (fun D cy ad A p e s m args below meth c Q F hret => ?_)
  refine z_eq (ls' := [(0, .ref (ad 2)), (1, .ref (ad 84))]) rfl rfl rfl ?_
  refine z_aload_n F dX9_copyFrom_0 rfl (q := 0) rfl ?_
  refine z_aload_n F dX9_copyFrom_1 rfl (q := 1) rfl ?_
  refine gf_X9_52 F hI gs_84 rfl bd_84_0 dX9_copyFrom_2 (fun v1 ev1 av1 bv1 => ?_)
  refine pf_X9_52 F hI gs_2 rfl bd_2_0 rfl rfl dX9_copyFrom_5 (by omega) (by omega) (fun M3 hI sf2 f2 => ?_)
  have hF := hF.wr f2 (by decide) (by decide)
  have hW : WFk M3 := hW.site f2 (by decide)
  refine z_aload_n F dX9_copyFrom_8 rfl (q := 0) rfl ?_
  refine z_aload_n F dX9_copyFrom_9 rfl (q := 1) rfl ?_
  refine gf_X9_56 F hI gs_84 rfl bd_84_1 dX9_copyFrom_10 (fun v4 ev4 av4 bv4 => ?_)
  refine pf_X9_56 F hI gs_2 rfl bd_2_1 rfl rfl dX9_copyFrom_13 (by omega) (by omega) (fun M6 hI sf5 f5 => ?_)
  have hF := hF.wr f5 (by decide) (by decide)
  have hW : WFk M6 := hW.site f5 (by decide)
  refine z_aload_n F dX9_copyFrom_16 rfl (q := 0) rfl ?_
  refine z_aload_n F dX9_copyFrom_17 rfl (q := 1) rfl ?_
  refine gf_X9_59 F hI gs_84 rfl bd_84_2 dX9_copyFrom_18 (fun v7 ev7 av7 bv7 => ?_)
  refine pf_X9_59 F hI gs_2 rfl bd_2_2 rfl rfl dX9_copyFrom_21 (by omega) (by omega) (fun M9 hI sf8 f8 => ?_)
  have hF := hF.wr f8 (by decide) (by decide)
  have hW : WFk M9 := hW.site f8 (by decide)
  refine z_aload_n F dX9_copyFrom_24 rfl (q := 0) rfl ?_
  refine z_aload_n F dX9_copyFrom_25 rfl (q := 1) rfl ?_
  refine gf_X9_62 F hI gs_84 rfl bd_84_3 dX9_copyFrom_26 (fun v10 ev10 av10 bv10 => ?_)
  refine pf_X9_62 F hI gs_2 rfl bd_2_3 rfl rfl dX9_copyFrom_29 (by omega) (by omega) (fun M12 hI sf11 f11 => ?_)
  have hF := hF.wr f11 (by decide) (by decide)
  have hW : WFk M12 := hW.site f11 (by decide)
  refine z_aload_n F dX9_copyFrom_32 rfl (q := 0) rfl ?_
  refine z_aload_n F dX9_copyFrom_33 rfl (q := 1) rfl ?_
  refine gf_X9_65 F hI gs_84 rfl bd_84_4 dX9_copyFrom_34 (fun v13 ev13 av13 bv13 => ?_)
  refine pf_X9_65 F hI gs_2 rfl bd_2_4 rfl rfl dX9_copyFrom_37 (by omega) (by omega) (fun M15 hI sf14 f14 => ?_)
  have hF := hF.wr f14 (by decide) (by decide)
  have hW : WFk M15 := hW.site f14 (by decide)
  refine z_aload_n F dX9_copyFrom_40 rfl (q := 0) rfl ?_
  refine z_aload_n F dX9_copyFrom_41 rfl (q := 1) rfl ?_
  refine gf_X9_68 F hI gs_84 rfl bd_84_12 dX9_copyFrom_42 (fun v16 ev16 av16 bv16 => ?_)
  refine pf_X9_68 F hI gs_2 rfl bd_2_12 rfl rfl dX9_copyFrom_45 (by omega) (by omega) (fun M18 hI sf17 f17 => ?_)
  have hF := hF.wr f17 (by decide) (by decide)
  have hW : WFk M18 := hW.site f17 (by decide)
  refine z_aload_n F dX9_copyFrom_48 rfl (q := 1) rfl ?_
  refine rf_X9_9 F gs_84 rfl dX9_copyFrom_49 ?_
  refine z_aload_n F dX9_copyFrom_52 rfl (q := 0) rfl ?_
  refine rf_X9_9 F gs_2 rfl dX9_copyFrom_53 ?_
  refine zs_v (rest := []) F (k_X9_copy_85_3 l M18 ⟨hI, hW⟩) cs_X9_77 (by decide) (by decide) rfl rfl rfl (Nat.le_of_ble_eq_true rfl) dX9_copyFrom_56 (fun M19 hI p20 => ?_)
  obtain ⟨hI, hW⟩ := hI
  obtain ⟨fp20, yp20⟩ := p20
  have hF := hF.call fp20 (by decide)
  refine z_aload_n F dX9_copyFrom_59 rfl (q := 1) rfl ?_
  refine rf_X9_15 F gs_84 rfl dX9_copyFrom_60 ?_
  refine z_aload_n F dX9_copyFrom_63 rfl (q := 0) rfl ?_
  refine rf_X9_15 F gs_2 rfl dX9_copyFrom_64 ?_
  refine zs_v (rest := []) F (k_X9_copy_86_4 l M19 ⟨hI, hW⟩) cs_X9_77 (by decide) (by decide) rfl rfl rfl (Nat.le_of_ble_eq_true rfl) dX9_copyFrom_67 (fun M21 hI p22 => ?_)
  obtain ⟨hI, hW⟩ := hI
  obtain ⟨fp22, yp22⟩ := p22
  have hF := hF.call fp22 (by decide)
  refine z_aload_n F dX9_copyFrom_70 rfl (q := 1) rfl ?_
  refine rf_X9_18 F gs_84 rfl dX9_copyFrom_71 ?_
  refine z_aload_n F dX9_copyFrom_74 rfl (q := 0) rfl ?_
  refine rf_X9_18 F gs_2 rfl dX9_copyFrom_75 ?_
  refine zs_v (rest := []) F (k_X9_copy_87_5 l M21 ⟨hI, hW⟩) cs_X9_77 (by decide) (by decide) rfl rfl rfl (Nat.le_of_ble_eq_true rfl) dX9_copyFrom_78 (fun M23 hI p24 => ?_)
  obtain ⟨hI, hW⟩ := hI
  obtain ⟨fp24, yp24⟩ := p24
  have hF := hF.call fp24 (by decide)
  refine z_aload_n F dX9_copyFrom_81 rfl (q := 1) rfl ?_
  refine rf_X9_21 F gs_84 rfl dX9_copyFrom_82 ?_
  refine z_aload_n F dX9_copyFrom_85 rfl (q := 0) rfl ?_
  refine rf_X9_21 F gs_2 rfl dX9_copyFrom_86 ?_
  refine zs_v (rest := []) F (k_X9_copy_88_6 l M23 ⟨hI, hW⟩) cs_X9_77 (by decide) (by decide) rfl rfl rfl (Nat.le_of_ble_eq_true rfl) dX9_copyFrom_89 (fun M25 hI p26 => ?_)
  obtain ⟨hI, hW⟩ := hI
  obtain ⟨fp26, yp26⟩ := p26
  have hF := hF.call fp26 (by decide)
  refine z_aload_n F dX9_copyFrom_92 rfl (q := 1) rfl ?_
  refine rf_X9_24 F gs_84 rfl dX9_copyFrom_93 ?_
  refine z_aload_n F dX9_copyFrom_96 rfl (q := 0) rfl ?_
  refine rf_X9_24 F gs_2 rfl dX9_copyFrom_97 ?_
  refine zs_v (rest := []) F (k_X9_copy_89_7 l M25 ⟨hI, hW⟩) cs_X9_77 (by decide) (by decide) rfl rfl rfl (Nat.le_of_ble_eq_true rfl) dX9_copyFrom_100 (fun M27 hI p28 => ?_)
  obtain ⟨hI, hW⟩ := hI
  obtain ⟨fp28, yp28⟩ := p28
  have hF := hF.call fp28 (by decide)
  refine z_aload_n F dX9_copyFrom_103 rfl (q := 1) rfl ?_
  refine rf_X9_27 F gs_84 rfl dX9_copyFrom_104 ?_
  refine z_aload_n F dX9_copyFrom_107 rfl (q := 0) rfl ?_
  refine rf_X9_27 F gs_2 rfl dX9_copyFrom_108 ?_
  refine zs_v (rest := []) F (k_X9_copy_90_8 l M27 ⟨hI, hW⟩) cs_X9_77 (by decide) (by decide) rfl rfl rfl (Nat.le_of_ble_eq_true rfl) dX9_copyFrom_111 (fun M29 hI p30 => ?_)
  obtain ⟨hI, hW⟩ := hI
  obtain ⟨fp30, yp30⟩ := p30
  have hF := hF.call fp30 (by decide)
  refine z_aload_n F dX9_copyFrom_114 rfl (q := 1) rfl ?_
  refine rf_X9_30 F gs_84 rfl dX9_copyFrom_115 ?_
  refine z_aload_n F dX9_copyFrom_118 rfl (q := 0) rfl ?_
  refine rf_X9_30 F gs_2 rfl dX9_copyFrom_119 ?_
  refine zs_v (rest := []) F (k_X9_copy_91_9 l M29 ⟨hI, hW⟩) cs_X9_77 (by decide) (by decide) rfl rfl rfl (Nat.le_of_ble_eq_true rfl) dX9_copyFrom_122 (fun M31 hI p32 => ?_)
  obtain ⟨hI, hW⟩ := hI
  obtain ⟨fp32, yp32⟩ := p32
  have hF := hF.call fp32 (by decide)
  refine z_aload_n F dX9_copyFrom_125 rfl (q := 1) rfl ?_
  refine rf_X9_33 F gs_84 rfl dX9_copyFrom_126 ?_
  refine z_aload_n F dX9_copyFrom_129 rfl (q := 0) rfl ?_
  refine rf_X9_33 F gs_2 rfl dX9_copyFrom_130 ?_
  refine zs_v (rest := []) F (k_X9_copy_92_10 l M31 ⟨hI, hW⟩) cs_X9_77 (by decide) (by decide) rfl rfl rfl (Nat.le_of_ble_eq_true rfl) dX9_copyFrom_133 (fun M33 hI p34 => ?_)
  obtain ⟨hI, hW⟩ := hI
  obtain ⟨fp34, yp34⟩ := p34
  have hF := hF.call fp34 (by decide)
  refine z_aload_n F dX9_copyFrom_136 rfl (q := 1) rfl ?_
  refine rf_X9_36 F gs_84 rfl dX9_copyFrom_137 ?_
  refine z_aload_n F dX9_copyFrom_140 rfl (q := 0) rfl ?_
  refine rf_X9_36 F gs_2 rfl dX9_copyFrom_141 ?_
  refine zs_v (rest := []) F (k_X9_copy_93_11 l M33 ⟨hI, hW⟩) cs_X9_77 (by decide) (by decide) rfl rfl rfl (Nat.le_of_ble_eq_true rfl) dX9_copyFrom_144 (fun M35 hI p36 => ?_)
  obtain ⟨hI, hW⟩ := hI
  obtain ⟨fp36, yp36⟩ := p36
  have hF := hF.call fp36 (by decide)
  refine z_aload_n F dX9_copyFrom_147 rfl (q := 1) rfl ?_
  refine rf_X9_39 F gs_84 rfl dX9_copyFrom_148 ?_
  refine z_aload_n F dX9_copyFrom_151 rfl (q := 0) rfl ?_
  refine rf_X9_39 F gs_2 rfl dX9_copyFrom_152 ?_
  refine zs_v (rest := []) F (k_X9_copy_94_12 l M35 ⟨hI, hW⟩) cs_X9_77 (by decide) (by decide) rfl rfl rfl (Nat.le_of_ble_eq_true rfl) dX9_copyFrom_155 (fun M37 hI p38 => ?_)
  obtain ⟨hI, hW⟩ := hI
  obtain ⟨fp38, yp38⟩ := p38
  have hF := hF.call fp38 (by decide)
  refine z_aload_n F dX9_copyFrom_158 rfl (q := 1) rfl ?_
  refine rf_X9_42 F gs_84 rfl dX9_copyFrom_159 ?_
  refine z_aload_n F dX9_copyFrom_162 rfl (q := 0) rfl ?_
  refine rf_X9_42 F gs_2 rfl dX9_copyFrom_163 ?_
  refine zs_v (rest := []) F (k_X9_copy_95_13 l M37 ⟨hI, hW⟩) cs_X9_77 (by decide) (by decide) rfl rfl rfl (Nat.le_of_ble_eq_true rfl) dX9_copyFrom_166 (fun M39 hI p40 => ?_)
  obtain ⟨hI, hW⟩ := hI
  obtain ⟨fp40, yp40⟩ := p40
  have hF := hF.call fp40 (by decide)
  refine z_aload_n F dX9_copyFrom_169 rfl (q := 0) rfl ?_
  refine rf_X9_48 F gs_2 rfl dX9_copyFrom_170 ?_
  refine z_aload_n F dX9_copyFrom_173 rfl (q := 1) rfl ?_
  refine rf_X9_48 F gs_84 rfl dX9_copyFrom_174 ?_
  refine zv_v (rest := []) F (k_X2_copyFrom_14_96 l M39 ⟨hI, hW⟩) cs_X9_81 (T := TX2) (N := 5) (ci := 2) rfl gs_14 (by decide) (by decide) rfl rfl rfl (Nat.le_of_ble_eq_true rfl) dX9_copyFrom_177 (fun M41 hI p42 => ?_)
  obtain ⟨hI, hW⟩ := hI
  have fp42 := p42
  have hF := hF.call fp42 (by decide)
  have q43 : v1 = M6 2 0 := sf2.symm.trans (f5 2 0 (fun q => absurd q.2 (by decide))).symm
  have q44 : v1 = M9 2 0 := q43.trans (f8 2 0 (fun q => absurd q.2 (by decide))).symm
  have q45 : v1 = M12 2 0 := q44.trans (f11 2 0 (fun q => absurd q.2 (by decide))).symm
  have q46 : v1 = M15 2 0 := q45.trans (f14 2 0 (fun q => absurd q.2 (by decide))).symm
  have q47 : v1 = M18 2 0 := q46.trans (f17 2 0 (fun q => absurd q.2 (by decide))).symm
  have q48 : v1 = M19 2 0 := q47.trans ((fp20.at (by decide)) : M19 2 0 = _).symm
  have q49 : v1 = M21 2 0 := q48.trans ((fp22.at (by decide)) : M21 2 0 = _).symm
  have q50 : v1 = M23 2 0 := q49.trans ((fp24.at (by decide)) : M23 2 0 = _).symm
  have q51 : v1 = M25 2 0 := q50.trans ((fp26.at (by decide)) : M25 2 0 = _).symm
  have q52 : v1 = M27 2 0 := q51.trans ((fp28.at (by decide)) : M27 2 0 = _).symm
  have q53 : v1 = M29 2 0 := q52.trans ((fp30.at (by decide)) : M29 2 0 = _).symm
  have q54 : v1 = M31 2 0 := q53.trans ((fp32.at (by decide)) : M31 2 0 = _).symm
  have q55 : v1 = M33 2 0 := q54.trans ((fp34.at (by decide)) : M33 2 0 = _).symm
  have q56 : v1 = M35 2 0 := q55.trans ((fp36.at (by decide)) : M35 2 0 = _).symm
  have q57 : v1 = M37 2 0 := q56.trans ((fp38.at (by decide)) : M37 2 0 = _).symm
  have q58 : v1 = M39 2 0 := q57.trans ((fp40.at (by decide)) : M39 2 0 = _).symm
  have q59 : v1 = M41 2 0 := q58.trans ((fp42.at (by decide)) : M41 2 0 = _).symm
  have q60 : v4 = M9 2 1 := sf5.symm.trans (f8 2 1 (fun q => absurd q.2 (by decide))).symm
  have q61 : v4 = M12 2 1 := q60.trans (f11 2 1 (fun q => absurd q.2 (by decide))).symm
  have q62 : v4 = M15 2 1 := q61.trans (f14 2 1 (fun q => absurd q.2 (by decide))).symm
  have q63 : v4 = M18 2 1 := q62.trans (f17 2 1 (fun q => absurd q.2 (by decide))).symm
  have q64 : v4 = M19 2 1 := q63.trans ((fp20.at (by decide)) : M19 2 1 = _).symm
  have q65 : v4 = M21 2 1 := q64.trans ((fp22.at (by decide)) : M21 2 1 = _).symm
  have q66 : v4 = M23 2 1 := q65.trans ((fp24.at (by decide)) : M23 2 1 = _).symm
  have q67 : v4 = M25 2 1 := q66.trans ((fp26.at (by decide)) : M25 2 1 = _).symm
  have q68 : v4 = M27 2 1 := q67.trans ((fp28.at (by decide)) : M27 2 1 = _).symm
  have q69 : v4 = M29 2 1 := q68.trans ((fp30.at (by decide)) : M29 2 1 = _).symm
  have q70 : v4 = M31 2 1 := q69.trans ((fp32.at (by decide)) : M31 2 1 = _).symm
  have q71 : v4 = M33 2 1 := q70.trans ((fp34.at (by decide)) : M33 2 1 = _).symm
  have q72 : v4 = M35 2 1 := q71.trans ((fp36.at (by decide)) : M35 2 1 = _).symm
  have q73 : v4 = M37 2 1 := q72.trans ((fp38.at (by decide)) : M37 2 1 = _).symm
  have q74 : v4 = M39 2 1 := q73.trans ((fp40.at (by decide)) : M39 2 1 = _).symm
  have q75 : v4 = M41 2 1 := q74.trans ((fp42.at (by decide)) : M41 2 1 = _).symm
  have q76 : v10 = M15 2 3 := sf11.symm.trans (f14 2 3 (fun q => absurd q.2 (by decide))).symm
  have q77 : v10 = M18 2 3 := q76.trans (f17 2 3 (fun q => absurd q.2 (by decide))).symm
  have q78 : v10 = M19 2 3 := q77.trans ((fp20.at (by decide)) : M19 2 3 = _).symm
  have q79 : v10 = M21 2 3 := q78.trans ((fp22.at (by decide)) : M21 2 3 = _).symm
  have q80 : v10 = M23 2 3 := q79.trans ((fp24.at (by decide)) : M23 2 3 = _).symm
  have q81 : v10 = M25 2 3 := q80.trans ((fp26.at (by decide)) : M25 2 3 = _).symm
  have q82 : v10 = M27 2 3 := q81.trans ((fp28.at (by decide)) : M27 2 3 = _).symm
  have q83 : v10 = M29 2 3 := q82.trans ((fp30.at (by decide)) : M29 2 3 = _).symm
  have q84 : v10 = M31 2 3 := q83.trans ((fp32.at (by decide)) : M31 2 3 = _).symm
  have q85 : v10 = M33 2 3 := q84.trans ((fp34.at (by decide)) : M33 2 3 = _).symm
  have q86 : v10 = M35 2 3 := q85.trans ((fp36.at (by decide)) : M35 2 3 = _).symm
  have q87 : v10 = M37 2 3 := q86.trans ((fp38.at (by decide)) : M37 2 3 = _).symm
  have q88 : v10 = M39 2 3 := q87.trans ((fp40.at (by decide)) : M39 2 3 = _).symm
  have q89 : v10 = M41 2 3 := q88.trans ((fp42.at (by decide)) : M41 2 3 = _).symm
  have q90 : v13 = M18 2 4 := sf14.symm.trans (f17 2 4 (fun q => absurd q.2 (by decide))).symm
  have q91 : v13 = M19 2 4 := q90.trans ((fp20.at (by decide)) : M19 2 4 = _).symm
  have q92 : v13 = M21 2 4 := q91.trans ((fp22.at (by decide)) : M21 2 4 = _).symm
  have q93 : v13 = M23 2 4 := q92.trans ((fp24.at (by decide)) : M23 2 4 = _).symm
  have q94 : v13 = M25 2 4 := q93.trans ((fp26.at (by decide)) : M25 2 4 = _).symm
  have q95 : v13 = M27 2 4 := q94.trans ((fp28.at (by decide)) : M27 2 4 = _).symm
  have q96 : v13 = M29 2 4 := q95.trans ((fp30.at (by decide)) : M29 2 4 = _).symm
  have q97 : v13 = M31 2 4 := q96.trans ((fp32.at (by decide)) : M31 2 4 = _).symm
  have q98 : v13 = M33 2 4 := q97.trans ((fp34.at (by decide)) : M33 2 4 = _).symm
  have q99 : v13 = M35 2 4 := q98.trans ((fp36.at (by decide)) : M35 2 4 = _).symm
  have q100 : v13 = M37 2 4 := q99.trans ((fp38.at (by decide)) : M37 2 4 = _).symm
  have q101 : v13 = M39 2 4 := q100.trans ((fp40.at (by decide)) : M39 2 4 = _).symm
  have q102 : v13 = M41 2 4 := q101.trans ((fp42.at (by decide)) : M41 2 4 = _).symm
  exact hret _ 180 _ ⟨hI, hW⟩ ⟨hF, (Eq.trans (Eq.symm q59) ev1), (cp_i (sC_eq (hI0.at (show Bd 84 1 = (0, 10) from rfl)).2 (hI0.at (show Bd 84 4 = (0, 6) from rfl)).2 (q75.symm.trans (ev4.trans (f2 84 1 (fun q => absurd q.1 (by decide))))) (q89.symm.trans (ev10.trans ((f8 84 3 (fun q => absurd q.1 (by decide))).trans ((f5 84 3 (fun q => absurd q.1 (by decide))).trans (f2 84 3 (fun q => absurd q.1 (by decide))))))) (q102.symm.trans (ev13.trans ((f11 84 4 (fun q => absurd q.1 (by decide))).trans ((f8 84 4 (fun q => absurd q.1 (by decide))).trans ((f5 84 4 (fun q => absurd q.1 (by decide))).trans (f2 84 4 (fun q => absurd q.1 (by decide)))))))) (fun j h => ((fp42.at (by decide) : M41 3 j = _).trans ((fp40.at (by decide) : M39 3 j = _).trans ((fp38.at (by decide) : M37 3 j = _).trans ((fp36.at (by decide) : M35 3 j = _).trans ((fp34.at (by decide) : M33 3 j = _).trans ((fp32.at (by decide) : M31 3 j = _).trans ((fp30.at (by decide) : M29 3 j = _).trans ((fp28.at (by decide) : M27 3 j = _).trans ((fp26.at (by decide) : M25 3 j = _).trans ((fp24.at (by decide) : M23 3 j = _).trans (fp22.at (by decide) : M21 3 j = _))))))))))).trans ((yp20 j h).trans ((f17 85 j (fun q => absurd q.1 (by decide))).trans ((f14 85 j (fun q => absurd q.1 (by decide))).trans ((f11 85 j (fun q => absurd q.1 (by decide))).trans ((f8 85 j (fun q => absurd q.1 (by decide))).trans ((f5 85 j (fun q => absurd q.1 (by decide))).trans (f2 85 j (fun q => absurd q.1 (by decide)))))))))) (fun j h => ((fp42.at (by decide) : M41 10 j = _).trans ((fp40.at (by decide) : M39 10 j = _).trans ((fp38.at (by decide) : M37 10 j = _).trans (fp36.at (by decide) : M35 10 j = _)))).trans ((yp34 j h).trans ((fp32.at (by decide) : M31 92 j = _).trans ((fp30.at (by decide) : M29 92 j = _).trans ((fp28.at (by decide) : M27 92 j = _).trans ((fp26.at (by decide) : M25 92 j = _).trans ((fp24.at (by decide) : M23 92 j = _).trans ((fp22.at (by decide) : M21 92 j = _).trans ((fp20.at (by decide) : M19 92 j = _).trans ((f17 92 j (fun q => absurd q.1 (by decide))).trans ((f14 92 j (fun q => absurd q.1 (by decide))).trans ((f11 92 j (fun q => absurd q.1 (by decide))).trans ((f8 92 j (fun q => absurd q.1 (by decide))).trans ((f5 92 j (fun q => absurd q.1 (by decide))).trans (f2 92 j (fun q => absurd q.1 (by decide))))))))))))))))) (fun j h => ((fp42.at (by decide) : M41 11 j = _).trans ((fp40.at (by decide) : M39 11 j = _).trans (fp38.at (by decide) : M37 11 j = _))).trans ((yp36 j h).trans ((fp34.at (by decide) : M33 93 j = _).trans ((fp32.at (by decide) : M31 93 j = _).trans ((fp30.at (by decide) : M29 93 j = _).trans ((fp28.at (by decide) : M27 93 j = _).trans ((fp26.at (by decide) : M25 93 j = _).trans ((fp24.at (by decide) : M23 93 j = _).trans ((fp22.at (by decide) : M21 93 j = _).trans ((fp20.at (by decide) : M19 93 j = _).trans ((f17 93 j (fun q => absurd q.1 (by decide))).trans ((f14 93 j (fun q => absurd q.1 (by decide))).trans ((f11 93 j (fun q => absurd q.1 (by decide))).trans ((f8 93 j (fun q => absurd q.1 (by decide))).trans ((f5 93 j (fun q => absurd q.1 (by decide))).trans (f2 93 j (fun q => absurd q.1 (by decide)))))))))))))))))) (fun j h => ((fp42.at (by decide) : M41 12 j = _).trans (fp40.at (by decide) : M39 12 j = _)).trans ((yp38 j h).trans ((fp36.at (by decide) : M35 94 j = _).trans ((fp34.at (by decide) : M33 94 j = _).trans ((fp32.at (by decide) : M31 94 j = _).trans ((fp30.at (by decide) : M29 94 j = _).trans ((fp28.at (by decide) : M27 94 j = _).trans ((fp26.at (by decide) : M25 94 j = _).trans ((fp24.at (by decide) : M23 94 j = _).trans ((fp22.at (by decide) : M21 94 j = _).trans ((fp20.at (by decide) : M19 94 j = _).trans ((f17 94 j (fun q => absurd q.1 (by decide))).trans ((f14 94 j (fun q => absurd q.1 (by decide))).trans ((f11 94 j (fun q => absurd q.1 (by decide))).trans ((f8 94 j (fun q => absurd q.1 (by decide))).trans ((f5 94 j (fun q => absurd q.1 (by decide))).trans (f2 94 j (fun q => absurd q.1 (by decide)))))))))))))))))))) (fun j h => ((fp42.at (by decide) : M41 5 j = _).trans ((fp40.at (by decide) : M39 5 j = _).trans ((fp38.at (by decide) : M37 5 j = _).trans ((fp36.at (by decide) : M35 5 j = _).trans ((fp34.at (by decide) : M33 5 j = _).trans ((fp32.at (by decide) : M31 5 j = _).trans ((fp30.at (by decide) : M29 5 j = _).trans ((fp28.at (by decide) : M27 5 j = _).trans (fp26.at (by decide) : M25 5 j = _))))))))).trans ((yp24 j h).trans ((fp22.at (by decide) : M21 87 j = _).trans ((fp20.at (by decide) : M19 87 j = _).trans ((f17 87 j (fun q => absurd q.1 (by decide))).trans ((f14 87 j (fun q => absurd q.1 (by decide))).trans ((f11 87 j (fun q => absurd q.1 (by decide))).trans ((f8 87 j (fun q => absurd q.1 (by decide))).trans ((f5 87 j (fun q => absurd q.1 (by decide))).trans (f2 87 j (fun q => absurd q.1 (by decide)))))))))))))⟩ dX9_copyFrom_180
set_option maxRecDepth 4000 in
theorem k_X7_load_35_100 (l : Launch) (M : Mem) (hJ : Iw M) (x1 : Int) (hx1a : (-2147483648) ≤ x1) (hx1b : x1 ≤ 2147483647) (hp0 : x1 % 34 = 0) : CV l yX7_load cX7_load 3 none 1 (fun ad => [.ref (ad 35), .ref (ad 100), ii x1]) M (fun M' => Fr [35, 36, 37, 38, 39] M M') := by
  obtain ⟨hI, hW⟩ := hJ
  have hF : Fr [35, 36, 37, 38, 39] M M := Fr.rf
  refine en_v (by decide +kernel) (fun ad => by exact Nat.le_of_ble_eq_true rfl) (fun D cy ad A p e s m args below meth c Q F hret => ?_)
  refine z_eq (ls' := [(0, .ref (ad 35)), (1, .ref (ad 100)), (2, ii x1)]) rfl rfl rfl ?_
  refine z_iload_n F dX7_load_0 rfl (q := 2) rfl ?_
  refine z_if_lt (tgt := 13) F dX7_load_1 (by decide +kernel) (by omega) (fun c1 => ?_) (fun c1 => ?_)
  · exact hret _ 13 _ ⟨hI, hW⟩ hF dX7_load_13
  · refine z_iload_n F dX7_load_4 rfl (q := 2) rfl ?_
    refine z_aload_n F dX7_load_5 rfl (q := 1) rfl ?_
    refine z_alen (x := 34) F gs_100 rfl rfl dX7_load_6 ?_
    refine z_bipush F dX7_load_7 (by decide +kernel) ?_
    refine z_isub F dX7_load_9 ?_
    refine z_icmp_le (tgt := 14) F dX7_load_10 (by decide +kernel) (by omega) (by omega) (fun c2 => ?_) (fun c2 => ?_)
    · refine z_aload_n F dX7_load_14 rfl (q := 1) rfl ?_
      refine z_iload_n F dX7_load_15 rfl (q := 2) rfl ?_
      refine z_aload_n F dX7_load_16 rfl (q := 0) rfl ?_
      refine rf_X7_9 F gs_35 rfl dX7_load_17 ?_
      refine z_iconst F dX7_load_20 ?_
      refine z_bipush F dX7_load_21 (by decide +kernel) ?_
      refine z_copy F (by decide) ac_X7_50 hI gs_100 gs_36 (by omega) (by omega) (by omega) (by omega) (by omega) (by decide) (by decide) (fun i hi => (show Bd 36 _ = (0, 9) from rfl).trans (show Bd 100 _ = (0, 9) from (bd_100.trans (sc_p (by omega)))).symm) (Nat.le_of_ble_eq_true rfl) dX7_load_23 (fun M4 hI g3 => ?_)
      have hF := hF.call g3 (by decide)
      have hW : WFk M4 := hW.fr g3 (by decide) (by decide)
      refine z_aload_n F dX7_load_26 rfl (q := 1) rfl ?_
      refine z_iload_n F dX7_load_27 rfl (q := 2) rfl ?_
      refine z_bipush F dX7_load_28 (by decide +kernel) ?_
      refine z_iadd F dX7_load_30 ?_
      refine z_aload_n F dX7_load_31 rfl (q := 0) rfl ?_
      refine rf_X7_15 F gs_35 rfl dX7_load_32 ?_
      refine z_iconst F dX7_load_35 ?_
      refine z_bipush F dX7_load_36 (by decide +kernel) ?_
      refine z_copy F (by decide) ac_X7_50 hI gs_100 gs_37 (by omega) (by omega) (by omega) (by omega) (by omega) (by decide) (by decide) (fun i hi => (show Bd 37 _ = (-2147483648, 2147483647) from rfl).trans (show Bd 100 _ = (-2147483648, 2147483647) from (bd_100.trans (sc_n (by omega)))).symm) (Nat.le_of_ble_eq_true rfl) dX7_load_38 (fun M6 hI g5 => ?_)
      have hF := hF.call g5 (by decide)
      have hW : WFk M6 := hW.fr g5 (by decide) (by decide)
      refine z_aload_n F dX7_load_41 rfl (q := 1) rfl ?_
      refine z_iload_n F dX7_load_42 rfl (q := 2) rfl ?_
      refine z_bipush F dX7_load_43 (by decide +kernel) ?_
      refine z_iadd F dX7_load_45 ?_
      refine z_aload_n F dX7_load_46 rfl (q := 0) rfl ?_
      refine rf_X7_18 F gs_35 rfl dX7_load_47 ?_
      refine z_iconst F dX7_load_50 ?_
      refine z_bipush F dX7_load_51 (by decide +kernel) ?_
      refine z_copy F (by decide) ac_X7_50 hI gs_100 gs_38 (by omega) (by omega) (by omega) (by omega) (by omega) (by decide) (by decide) (fun i hi => (show Bd 38 _ = (-2147483648, 2147483647) from rfl).trans (show Bd 100 _ = (-2147483648, 2147483647) from (bd_100.trans (sc_n (by omega)))).symm) (Nat.le_of_ble_eq_true rfl) dX7_load_53 (fun M8 hI g7 => ?_)
      have hF := hF.call g7 (by decide)
      have hW : WFk M8 := hW.fr g7 (by decide) (by decide)
      refine z_aload_n F dX7_load_56 rfl (q := 1) rfl ?_
      refine z_iload_n F dX7_load_57 rfl (q := 2) rfl ?_
      refine z_bipush F dX7_load_58 (by decide +kernel) ?_
      refine z_iadd F dX7_load_60 ?_
      refine z_aload_n F dX7_load_61 rfl (q := 0) rfl ?_
      refine rf_X7_21 F gs_35 rfl dX7_load_62 ?_
      refine z_iconst F dX7_load_65 ?_
      refine z_bipush F dX7_load_66 (by decide +kernel) ?_
      refine z_copy F (by decide) ac_X7_50 hI gs_100 gs_39 (by omega) (by omega) (by omega) (by omega) (by omega) (by decide) (by decide) (fun i hi => (show Bd 39 _ = (-2147483648, 2147483647) from rfl).trans (show Bd 100 _ = (-2147483648, 2147483647) from (bd_100.trans (sc_n (by omega)))).symm) (Nat.le_of_ble_eq_true rfl) dX7_load_68 (fun M10 hI g9 => ?_)
      have hF := hF.call g9 (by decide)
      have hW : WFk M10 := hW.fr g9 (by decide) (by decide)
      refine z_aload_n F dX7_load_71 rfl (q := 0) rfl ?_
      refine z_aload_n F dX7_load_72 rfl (q := 1) rfl ?_
      refine z_iload_n F dX7_load_73 rfl (q := 2) rfl ?_
      refine z_bipush F dX7_load_74 (by decide +kernel) ?_
      refine z_iadd F dX7_load_76 ?_
      refine z_iconst F dX7_load_77 ?_
      refine z_isub F dX7_load_78 ?_
      refine z_iald F hI gs_100 (by omega) (by omega) (by decide) (bd_100.trans (sc_n (by omega))) dX7_load_79 (fun v11 (ev11 : v11 = M10 100 _) av11 bv11 => ?_)
      refine pf_X7_44 F hI gs_35 rfl bd_35_5 rfl rfl dX7_load_80 (by omega) (by omega) (fun M13 hI sf12 f12 => ?_)
      have hF := hF.wr f12 (by decide) (by decide)
      have hW : WFk M13 := hW.site f12 (by decide)
      refine z_aload_n F dX7_load_83 rfl (q := 0) rfl ?_
      refine z_aload_n F dX7_load_84 rfl (q := 1) rfl ?_
      refine z_iload_n F dX7_load_85 rfl (q := 2) rfl ?_
      refine z_bipush F dX7_load_86 (by decide +kernel) ?_
      refine z_iadd F dX7_load_88 ?_
      refine z_iconst F dX7_load_89 ?_
      refine z_isub F dX7_load_90 ?_
      refine z_iald F hI gs_100 (by omega) (by omega) (by decide) (bd_100.trans (sc_n (by omega))) dX7_load_91 (fun v14 (ev14 : v14 = M13 100 _) av14 bv14 => ?_)
      refine pf_X7_47 F hI gs_35 rfl bd_35_6 rfl rfl dX7_load_92 (by omega) (by omega) (fun M16 hI sf15 f15 => ?_)
      have hF := hF.wr f15 (by decide) (by decide)
      have hW : WFk M16 := hW.site f15 (by decide)
      exact hret _ 95 _ ⟨hI, hW⟩ hF dX7_load_95
    · exact hret _ 13 _ ⟨hI, hW⟩ hF dX7_load_13
set_option maxRecDepth 4000 in
theorem k_X4_copyFrom_40_101 (l : Launch) (M : Mem) (hJ : Iw M) : CV l yX4_copyFrom cX4_copyFrom 2 none 1 (fun ad => [.ref (ad 40), .ref (ad 101)]) M (fun M' => Fr [40, 41] M M') := by
  obtain ⟨hI, hW⟩ := hJ
  have hF : Fr [40, 41] M M := Fr.rf
  refine en_v (by decide +kernel) (fun ad => by exact Nat.le_of_ble_eq_true rfl) (fun D cy ad A p e s m args below meth c Q F hret => ?_)
  refine z_eq (ls' := [(0, .ref (ad 40)), (1, .ref (ad 101))]) rfl rfl rfl ?_
  refine z_aload_n F dX4_copyFrom_0 rfl (q := 0) rfl ?_
  refine z_aload_n F dX4_copyFrom_1 rfl (q := 1) rfl ?_
  refine gf_X4_17 F hI gs_101 rfl bd_101_0 dX4_copyFrom_2 (fun v1 ev1 av1 bv1 => ?_)
  refine pf_X4_17 F hI gs_40 rfl bd_40_0 rfl rfl dX4_copyFrom_5 (by omega) (by omega) (fun M3 hI sf2 f2 => ?_)
  have hF := hF.wr f2 (by decide) (by decide)
  have hW : WFk M3 := hW.site f2 (by decide)
  refine z_aload_n F dX4_copyFrom_8 rfl (q := 0) rfl ?_
  refine z_aload_n F dX4_copyFrom_9 rfl (q := 1) rfl ?_
  refine gf_X4_21 F hI gs_101 rfl bd_101_1 dX4_copyFrom_10 (fun v4 ev4 av4 bv4 => ?_)
  refine pf_X4_21 F hI gs_40 rfl bd_40_1 rfl rfl dX4_copyFrom_13 (by omega) (by omega) (fun M6 hI sf5 f5 => ?_)
  have hF := hF.wr f5 (by decide) (by decide)
  have hW : WFk M6 := hW.site f5 (by decide)
  refine z_aload_n F dX4_copyFrom_16 rfl (q := 1) rfl ?_
  refine rf_X4_11 F gs_101 rfl dX4_copyFrom_17 ?_
  refine z_iconst F dX4_copyFrom_20 ?_
  refine z_aload_n F dX4_copyFrom_21 rfl (q := 0) rfl ?_
  refine rf_X4_11 F gs_40 rfl dX4_copyFrom_22 ?_
  refine z_iconst F dX4_copyFrom_25 ?_
  refine z_aload_n F dX4_copyFrom_26 rfl (q := 0) rfl ?_
  refine rf_X4_11 F gs_40 rfl dX4_copyFrom_27 ?_
  refine z_alen (x := 408) F gs_41 rfl rfl dX4_copyFrom_30 ?_
  refine z_copy F (by decide) ac_X4_40 hI gs_102 gs_41 (by omega) (by omega) (by omega) (by omega) (by omega) (by decide) (by decide) (fun i hi => rfl) (Nat.le_of_ble_eq_true rfl) dX4_copyFrom_31 (fun M8 hI g7 => ?_)
  have hF := hF.call g7 (by decide)
  have hW : WFk M8 := hW.fr g7 (by decide) (by decide)
  exact hret _ 34 _ ⟨hI, hW⟩ hF dX4_copyFrom_34
set_option maxRecDepth 4000 in
theorem k_X1_giveBack_83_2_35_40 (l : Launch) (M : Mem) (hJ : Iw M) : CV l yX1_giveBack cX1_giveBack 4 none 3 (fun ad => [.ref (ad 83), .ref (ad 2), .ref (ad 35), .ref (ad 40)]) M (fun M' => Fr [2, 3, 4, 5, 6, 7, 8, 9, 10, 11, 12, 13, 14, 15, 35, 36, 37, 38, 39, 40, 41] M M' ∧ (Cp 84 2 M M')) := by
  obtain ⟨hI, hW⟩ := hJ
  have hF : Fr [2, 3, 4, 5, 6, 7, 8, 9, 10, 11, 12, 13, 14, 15, 35, 36, 37, 38, 39, 40, 41] M M := Fr.rf
  refine en_v (by decide +kernel) (fun ad => by exact Nat.le_of_ble_eq_true rfl) (fun D cy ad A p e s m args below meth c Q F hret => ?_)
  refine z_eq (ls' := [(0, .ref (ad 83)), (1, .ref (ad 2)), (2, .ref (ad 35)), (3, .ref (ad 40))]) rfl rfl rfl ?_
  refine z_aload_n F dX1_giveBack_0 rfl (q := 1) rfl ?_
  refine z_aload_n F dX1_giveBack_1 rfl (q := 0) rfl ?_
  refine rf_X1_10 F gs_83 rfl dX1_giveBack_2 ?_
  refine zv_v (rest := []) F (k_X9_copyFrom_2_84 l M ⟨hI, hW⟩) cs_X1_33 (T := TX9) (N := 18) (ci := 9) rfl gs_2 (by decide) (by decide) rfl rfl rfl (Nat.le_of_ble_eq_true rfl) dX1_giveBack_5 (fun M1 hI p2 => ?_)
  obtain ⟨hI, hW⟩ := hI
  obtain ⟨fp2, xp2, yp2⟩ := p2
  have hF := hF.call fp2 (by decide)
  refine z_aload_n F dX1_giveBack_8 rfl (q := 2) rfl ?_
  refine z_aload_n F dX1_giveBack_9 rfl (q := 0) rfl ?_
  refine rf_X1_18 F gs_83 rfl dX1_giveBack_10 ?_
  refine z_iconst F dX1_giveBack_13 ?_
  refine zv_v (rest := []) F (k_X7_load_35_100 l M1 ⟨hI, hW⟩ 0 (by omega) (by omega) (by omega)) cs_X1_44 (T := TX7) (N := 7) (ci := 7) rfl gs_35 (by decide) (by decide) rfl rfl rfl (Nat.le_of_ble_eq_true rfl) dX1_giveBack_14 (fun M3 hI p4 => ?_)
  obtain ⟨hI, hW⟩ := hI
  have fp4 := p4
  have hF := hF.call fp4 (by decide)
  refine z_aload_n F dX1_giveBack_17 rfl (q := 3) rfl ?_
  refine z_aload_n F dX1_giveBack_18 rfl (q := 0) rfl ?_
  refine rf_X1_25 F gs_83 rfl dX1_giveBack_19 ?_
  refine zv_v (rest := []) F (k_X4_copyFrom_40_101 l M3 ⟨hI, hW⟩) cs_X1_41 (T := TX4) (N := 3) (ci := 4) rfl gs_40 (by decide) (by decide) rfl rfl rfl (Nat.le_of_ble_eq_true rfl) dX1_giveBack_22 (fun M5 hI p6 => ?_)
  obtain ⟨hI, hW⟩ := hI
  have fp6 := p6
  have hF := hF.call fp6 (by decide)
  exact hret _ 25 _ ⟨hI, hW⟩ ⟨hF, (cp_tr (cp_rf : Cp 84 84 M M) (cp_tr yp2 (cp_tr (cp_fr fp4 (by decide) (by decide) : Cp 2 2 M1 M3) (cp_fr fp6 (by decide) (by decide) : Cp 2 2 M3 M5))))⟩ dX1_giveBack_25
set_option maxRecDepth 4000 in
theorem k_X9_copy_105_3 (l : Launch) (M : Mem) (hJ : Iw M) : CV l yX9_copy cX9_copy 2 none 1 (fun ad => [.ref (ad 105), .ref (ad 3)]) M (fun M' => Fr [3] M M' ∧ (∀ j : Nat, j < 10 → M' 3 j = M 105 j)) := by
  obtain ⟨hI, hW⟩ := hJ
  have hF : Fr [3] M M := Fr.rf
  refine en_v (by decide +kernel) (fun ad => by exact Nat.le_of_ble_eq_true rfl) (fun D cy ad A p e s m args below meth c Q F hret => ?_)
  refine z_eq (ls' := [(0, .ref (ad 105)), (1, .ref (ad 3))]) rfl rfl rfl ?_
  refine z_aload_n F dX9_copy_0 rfl (q := 0) rfl ?_
  refine z_iconst F dX9_copy_1 ?_
  refine z_aload_n F dX9_copy_2 rfl (q := 1) rfl ?_
  refine z_iconst F dX9_copy_3 ?_
  refine z_aload_n F dX9_copy_4 rfl (q := 0) rfl ?_
  refine z_alen (x := 10) F gs_105 rfl rfl dX9_copy_5 ?_
  refine z_aload_n F dX9_copy_6 rfl (q := 1) rfl ?_
  refine z_alen (x := 10) F gs_3 rfl rfl dX9_copy_7 ?_
  refine z_min F mm_X9_85 (Nat.le_of_ble_eq_true rfl) dX9_copy_8 (by omega) (by omega) (fun v1 ev1 => ?_)
  refine z_copyE F (by decide) ac_X9_91 hI gs_105 gs_3 (by omega) (by omega) (by omega) (by omega) (by omega) (by decide) (by decide) (fun i hi => rfl) (Nat.le_of_ble_eq_true rfl) dX9_copy_11 (fun M3 hI g2 kg2 => ?_)
  have hF := hF.call g2 (by decide)
  have hW : WFk M3 := hW.fr g2 (by decide) (by decide)
  exact hret _ 14 _ ⟨hI, hW⟩ ⟨hF, (cp_at (f := M3 3) (g := M 105) (h := M 3) 10 kg2 (by omega))⟩ dX9_copy_14
set_option maxRecDepth 4000 in
theorem k_X9_copy_106_4 (l : Launch) (M : Mem) (hJ : Iw M) : CV l yX9_copy cX9_copy 2 none 1 (fun ad => [.ref (ad 106), .ref (ad 4)]) M (fun M' => Fr [4] M M' ∧ (∀ j : Nat, j < 10 → M' 4 j = M 106 j)) := by
  obtain ⟨hI, hW⟩ := hJ
  have hF : Fr [4] M M := Fr.rf
  refine en_v (by decide +kernel) (fun ad => by exact Nat.le_of_ble_eq_true rfl) (fun D cy ad A p e s m args below meth c Q F hret => ?_)
  refine z_eq (ls' := [(0, .ref (ad 106)), (1, .ref (ad 4))]) rfl rfl rfl ?_
  refine z_aload_n F dX9_copy_0 rfl (q := 0) rfl ?_
  refine z_iconst F dX9_copy_1 ?_
  refine z_aload_n F dX9_copy_2 rfl (q := 1) rfl ?_
  refine z_iconst F dX9_copy_3 ?_
  refine z_aload_n F dX9_copy_4 rfl (q := 0) rfl ?_
  refine z_alen (x := 10) F gs_106 rfl rfl dX9_copy_5 ?_
  refine z_aload_n F dX9_copy_6 rfl (q := 1) rfl ?_
  refine z_alen (x := 10) F gs_4 rfl rfl dX9_copy_7 ?_
  refine z_min F mm_X9_85 (Nat.le_of_ble_eq_true rfl) dX9_copy_8 (by omega) (by omega) (fun v1 ev1 => ?_)
  refine z_copyE F (by decide) ac_X9_91 hI gs_106 gs_4 (by omega) (by omega) (by omega) (by omega) (by omega) (by decide) (by decide) (fun i hi => rfl) (Nat.le_of_ble_eq_true rfl) dX9_copy_11 (fun M3 hI g2 kg2 => ?_)
  have hF := hF.call g2 (by decide)
  have hW : WFk M3 := hW.fr g2 (by decide) (by decide)
  exact hret _ 14 _ ⟨hI, hW⟩ ⟨hF, (cp_at (f := M3 4) (g := M 106) (h := M 4) 10 kg2 (by omega))⟩ dX9_copy_14
