theorem dX11_image_0 : decode cX11_image 0 = .ok (.aload_n 0, 1) := by decide +kernel
theorem dX11_image_1 : decode cX11_image 1 = .ok (.iload_n 1, 1) := by decide +kernel
theorem dX11_image_10 : decode cX11_image 10 = .ok (.aaload, 1) := by decide +kernel
theorem dX11_image_11 : decode cX11_image 11 = .ok (.aload_n 0, 1) := by decide +kernel
theorem dX11_image_12 : decode cX11_image 12 = .ok (.getfield 16, 3) := by decide +kernel
theorem dX11_image_15 : decode cX11_image 15 = .ok (.aload_n 0, 1) := by decide +kernel
theorem dX11_image_16 : decode cX11_image 16 = .ok (.getfield 34, 3) := by decide +kernel
theorem dX11_image_19 : decode cX11_image 19 = .ok (.aload_n 0, 1) := by decide +kernel
theorem dX11_image_2 : decode cX11_image 2 = .ok (.invokevirtual 474, 3) := by decide +kernel
theorem dX11_image_20 : decode cX11_image 20 = .ok (.getfield 41, 3) := by decide +kernel
theorem dX11_image_23 : decode cX11_image 23 = .ok (.invokevirtual 477, 3) := by decide +kernel
theorem dX11_image_26 : decode cX11_image 26 = .ok (.return_, 1) := by decide +kernel
theorem dX11_image_5 : decode cX11_image 5 = .ok (.aload_n 0, 1) := by decide +kernel
theorem dX11_image_6 : decode cX11_image 6 = .ok (.getfield 51, 3) := by decide +kernel
theorem dX11_image_9 : decode cX11_image 9 = .ok (.iload_n 1, 1) := by decide +kernel
set_option maxRecDepth 4000 in
theorem k_X9_copy_6_108 (l : Launch) (M : Mem) (hJ : Iw M) : CV l yX9_copy cX9_copy 2 none 1 (fun ad => [.ref (ad 6), .ref (ad 108)]) M (fun M' => Fr [108] M M' ∧ (∀ j : Nat, j < 8 → M' 108 j = M 6 j)) := by
  obtain ⟨hI, hW⟩ := hJ
  have hF : Fr [108] M M := Fr.rf
  refine en_v (by decide +kernel) (fun ad => by exact Nat.le_of_ble_eq_true rfl) (fun D cy ad A p e s m args below meth c Q F hret => ?_)
  refine z_eq (ls' := [(0, .ref (ad 6)), (1, .ref (ad 108))]) rfl rfl rfl ?_
  refine z_aload_n F dX9_copy_0 rfl (q := 0) rfl ?_
  refine z_iconst F dX9_copy_1 ?_
  refine z_aload_n F dX9_copy_2 rfl (q := 1) rfl ?_
  refine z_iconst F dX9_copy_3 ?_
  refine z_aload_n F dX9_copy_4 rfl (q := 0) rfl ?_
  refine z_alen (x := 8) F gs_6 rfl rfl dX9_copy_5 ?_
  refine z_aload_n F dX9_copy_6 rfl (q := 1) rfl ?_
  refine z_alen (x := 8) F gs_108 rfl rfl dX9_copy_7 ?_
  refine z_min F mm_X9_85 (Nat.le_of_ble_eq_true rfl) dX9_copy_8 (by omega) (by omega) (fun v1 ev1 => ?_)
  refine z_copyE F (by decide) ac_X9_91 hI gs_6 gs_108 (by omega) (by omega) (by omega) (by omega) (by omega) (by decide) (by decide) (fun i hi => rfl) (Nat.le_of_ble_eq_true rfl) dX9_copy_11 (fun M3 hI g2 kg2 => ?_)
  have hF := hF.call g2 (by decide)
  have hW : WFk M3 := hW.fr g2 (by decide) (by decide)
  exact hret _ 14 _ ⟨hI, hW⟩ ⟨hF, (cp_at (f := M3 108) (g := M 6) (h := M 108) 8 kg2 (by omega))⟩ dX9_copy_14
set_option maxRecDepth 4000 in
theorem k_X9_copy_7_109 (l : Launch) (M : Mem) (hJ : Iw M) : CV l yX9_copy cX9_copy 2 none 1 (fun ad => [.ref (ad 7), .ref (ad 109)]) M (fun M' => Fr [109] M M' ∧ (∀ j : Nat, j < 8 → M' 109 j = M 7 j)) := by
  obtain ⟨hI, hW⟩ := hJ
  have hF : Fr [109] M M := Fr.rf
  refine en_v (by decide +kernel) (fun ad => by exact Nat.le_of_ble_eq_true rfl) (fun D cy ad A p e s m args below meth c Q F hret => ?_)
  refine z_eq (ls' := [(0, .ref (ad 7)), (1, .ref (ad 109))]) rfl rfl rfl ?_
  refine z_aload_n F dX9_copy_0 rfl (q := 0) rfl ?_
  refine z_iconst F dX9_copy_1 ?_
  refine z_aload_n F dX9_copy_2 rfl (q := 1) rfl ?_
  refine z_iconst F dX9_copy_3 ?_
  refine z_aload_n F dX9_copy_4 rfl (q := 0) rfl ?_
  refine z_alen (x := 8) F gs_7 rfl rfl dX9_copy_5 ?_
  refine z_aload_n F dX9_copy_6 rfl (q := 1) rfl ?_
  refine z_alen (x := 8) F gs_109 rfl rfl dX9_copy_7 ?_
  refine z_min F mm_X9_85 (Nat.le_of_ble_eq_true rfl) dX9_copy_8 (by omega) (by omega) (fun v1 ev1 => ?_)
  refine z_copyE F (by decide) ac_X9_91 hI gs_7 gs_109 (by omega) (by omega) (by omega) (by omega) (by omega) (by decide) (by decide) (fun i hi => rfl) (Nat.le_of_ble_eq_true rfl) dX9_copy_11 (fun M3 hI g2 kg2 => ?_)
  have hF := hF.call g2 (by decide)
  have hW : WFk M3 := hW.fr g2 (by decide) (by decide)
  exact hret _ 14 _ ⟨hI, hW⟩ ⟨hF, (cp_at (f := M3 109) (g := M 7) (h := M 109) 8 kg2 (by omega))⟩ dX9_copy_14
set_option maxRecDepth 4000 in
theorem k_X9_copy_8_110 (l : Launch) (M : Mem) (hJ : Iw M) : CV l yX9_copy cX9_copy 2 none 1 (fun ad => [.ref (ad 8), .ref (ad 110)]) M (fun M' => Fr [110] M M' ∧ (∀ j : Nat, j < 8 → M' 110 j = M 8 j)) := by
  obtain ⟨hI, hW⟩ := hJ
  have hF : Fr [110] M M := Fr.rf
  refine en_v (by decide +kernel) (fun ad => by exact Nat.le_of_ble_eq_true rfl) (fun D cy ad A p e s m args below meth c Q F hret => ?_)
  refine z_eq (ls' := [(0, .ref (ad 8)), (1, .ref (ad 110))]) rfl rfl rfl ?_
  refine z_aload_n F dX9_copy_0 rfl (q := 0) rfl ?_
  refine z_iconst F dX9_copy_1 ?_
  refine z_aload_n F dX9_copy_2 rfl (q := 1) rfl ?_
  refine z_iconst F dX9_copy_3 ?_
  refine z_aload_n F dX9_copy_4 rfl (q := 0) rfl ?_
  refine z_alen (x := 8) F gs_8 rfl rfl dX9_copy_5 ?_
  refine z_aload_n F dX9_copy_6 rfl (q := 1) rfl ?_
  refine z_alen (x := 8) F gs_110 rfl rfl dX9_copy_7 ?_
  refine z_min F mm_X9_85 (Nat.le_of_ble_eq_true rfl) dX9_copy_8 (by omega) (by omega) (fun v1 ev1 => ?_)
  refine z_copyE F (by decide) ac_X9_91 hI gs_8 gs_110 (by omega) (by omega) (by omega) (by omega) (by omega) (by decide) (by decide) (fun i hi => rfl) (Nat.le_of_ble_eq_true rfl) dX9_copy_11 (fun M3 hI g2 kg2 => ?_)
  have hF := hF.call g2 (by decide)
  have hW : WFk M3 := hW.fr g2 (by decide) (by decide)
  exact hret _ 14 _ ⟨hI, hW⟩ ⟨hF, (cp_at (f := M3 110) (g := M 8) (h := M 110) 8 kg2 (by omega))⟩ dX9_copy_14
set_option maxRecDepth 4000 in
theorem k_X9_copy_9_111 (l : Launch) (M : Mem) (hJ : Iw M) : CV l yX9_copy cX9_copy 2 none 1 (fun ad => [.ref (ad 9), .ref (ad 111)]) M (fun M' => Fr [111] M M' ∧ (∀ j : Nat, j < 8 → M' 111 j = M 9 j)) := by
  obtain ⟨hI, hW⟩ := hJ
  have hF : Fr [111] M M := Fr.rf
  refine en_v (by decide +kernel) (fun ad => by exact Nat.le_of_ble_eq_true rfl) (fun D cy ad A p e s m args below meth c Q F hret => ?_)
  refine z_eq (ls' := [(0, .ref (ad 9)), (1, .ref (ad 111))]) rfl rfl rfl ?_
  refine z_aload_n F dX9_copy_0 rfl (q := 0) rfl ?_
  refine z_iconst F dX9_copy_1 ?_
  refine z_aload_n F dX9_copy_2 rfl (q := 1) rfl ?_
  refine z_iconst F dX9_copy_3 ?_
  refine z_aload_n F dX9_copy_4 rfl (q := 0) rfl ?_
  refine z_alen (x := 8) F gs_9 rfl rfl dX9_copy_5 ?_
  refine z_aload_n F dX9_copy_6 rfl (q := 1) rfl ?_
  refine z_alen (x := 8) F gs_111 rfl rfl dX9_copy_7 ?_
  refine z_min F mm_X9_85 (Nat.le_of_ble_eq_true rfl) dX9_copy_8 (by omega) (by omega) (fun v1 ev1 => ?_)
  refine z_copyE F (by decide) ac_X9_91 hI gs_9 gs_111 (by omega) (by omega) (by omega) (by omega) (by omega) (by decide) (by decide) (fun i hi => rfl) (Nat.le_of_ble_eq_true rfl) dX9_copy_11 (fun M3 hI g2 kg2 => ?_)
  have hF := hF.call g2 (by decide)
  have hW : WFk M3 := hW.fr g2 (by decide) (by decide)
  exact hret _ 14 _ ⟨hI, hW⟩ ⟨hF, (cp_at (f := M3 111) (g := M 9) (h := M 111) 8 kg2 (by omega))⟩ dX9_copy_14
set_option maxRecDepth 4000 in
theorem k_X9_copy_10_112 (l : Launch) (M : Mem) (hJ : Iw M) : CV l yX9_copy cX9_copy 2 none 1 (fun ad => [.ref (ad 10), .ref (ad 112)]) M (fun M' => Fr [112] M M' ∧ (∀ j : Nat, j < 6 → M' 112 j = M 10 j)) := by
  obtain ⟨hI, hW⟩ := hJ
  have hF : Fr [112] M M := Fr.rf
  refine en_v (by decide +kernel) (fun ad => by exact Nat.le_of_ble_eq_true rfl) (fun D cy ad A p e s m args below meth c Q F hret => ?_)
  refine z_eq (ls' := [(0, .ref (ad 10)), (1, .ref (ad 112))]) rfl rfl rfl ?_
  refine z_aload_n F dX9_copy_0 rfl (q := 0) rfl ?_
  refine z_iconst F dX9_copy_1 ?_
  refine z_aload_n F dX9_copy_2 rfl (q := 1) rfl ?_
  refine z_iconst F dX9_copy_3 ?_
  refine z_aload_n F dX9_copy_4 rfl (q := 0) rfl ?_
  refine z_alen (x := 6) F gs_10 rfl rfl dX9_copy_5 ?_
  refine z_aload_n F dX9_copy_6 rfl (q := 1) rfl ?_
  refine z_alen (x := 6) F gs_112 rfl rfl dX9_copy_7 ?_
  refine z_min F mm_X9_85 (Nat.le_of_ble_eq_true rfl) dX9_copy_8 (by omega) (by omega) (fun v1 ev1 => ?_)
  refine z_copyE F (by decide) ac_X9_91 hI gs_10 gs_112 (by omega) (by omega) (by omega) (by omega) (by omega) (by decide) (by decide) (fun i hi => rfl) (Nat.le_of_ble_eq_true rfl) dX9_copy_11 (fun M3 hI g2 kg2 => ?_)
  have hF := hF.call g2 (by decide)
  have hW : WFk M3 := hW.fr g2 (by decide) (by decide)
  exact hret _ 14 _ ⟨hI, hW⟩ ⟨hF, (cp_at (f := M3 112) (g := M 10) (h := M 112) 6 kg2 (by omega))⟩ dX9_copy_14
set_option maxRecDepth 4000 in
theorem k_X9_copy_11_113 (l : Launch) (M : Mem) (hJ : Iw M) : CV l yX9_copy cX9_copy 2 none 1 (fun ad => [.ref (ad 11), .ref (ad 113)]) M (fun M' => Fr [113] M M' ∧ (∀ j : Nat, j < 6 → M' 113 j = M 11 j)) := by
  obtain ⟨hI, hW⟩ := hJ
  have hF : Fr [113] M M := Fr.rf
  refine en_v (by decide +kernel) (fun ad => by exact Nat.le_of_ble_eq_true rfl) (fun D cy ad A p e s m args below meth c Q F hret => ?_)
  refine z_eq (ls' := [(0, .ref (ad 11)), (1, .ref (ad 113))]) rfl rfl rfl ?_
  refine z_aload_n F dX9_copy_0 rfl (q := 0) rfl ?_
  refine z_iconst F dX9_copy_1 ?_
  refine z_aload_n F dX9_copy_2 rfl (q := 1) rfl ?_
  refine z_iconst F dX9_copy_3 ?_
  refine z_aload_n F dX9_copy_4 rfl (q := 0) rfl ?_
  refine z_alen (x := 6) F gs_11 rfl rfl dX9_copy_5 ?_
  refine z_aload_n F dX9_copy_6 rfl (q := 1) rfl ?_
  refine z_alen (x := 6) F gs_113 rfl rfl dX9_copy_7 ?_
  refine z_min F mm_X9_85 (Nat.le_of_ble_eq_true rfl) dX9_copy_8 (by omega) (by omega) (fun v1 ev1 => ?_)
  refine z_copyE F (by decide) ac_X9_91 hI gs_11 gs_113 (by omega) (by omega) (by omega) (by omega) (by omega) (by decide) (by decide) (fun i hi => rfl) (Nat.le_of_ble_eq_true rfl) dX9_copy_11 (fun M3 hI g2 kg2 => ?_)
  have hF := hF.call g2 (by decide)
  have hW : WFk M3 := hW.fr g2 (by decide) (by decide)
  exact hret _ 14 _ ⟨hI, hW⟩ ⟨hF, (cp_at (f := M3 113) (g := M 11) (h := M 113) 6 kg2 (by omega))⟩ dX9_copy_14
set_option maxRecDepth 4000 in
theorem k_X9_copy_12_114 (l : Launch) (M : Mem) (hJ : Iw M) : CV l yX9_copy cX9_copy 2 none 1 (fun ad => [.ref (ad 12), .ref (ad 114)]) M (fun M' => Fr [114] M M' ∧ (∀ j : Nat, j < 6 → M' 114 j = M 12 j)) := by
  obtain ⟨hI, hW⟩ := hJ
  have hF : Fr [114] M M := Fr.rf
  refine en_v (by decide +kernel) (fun ad => by exact Nat.le_of_ble_eq_true rfl) (fun D cy ad A p e s m args below meth c Q F hret => ?_)
  refine z_eq (ls' := [(0, .ref (ad 12)), (1, .ref (ad 114))]) rfl rfl rfl ?_
  refine z_aload_n F dX9_copy_0 rfl (q := 0) rfl ?_
  refine z_iconst F dX9_copy_1 ?_
  refine z_aload_n F dX9_copy_2 rfl (q := 1) rfl ?_
  refine z_iconst F dX9_copy_3 ?_
  refine z_aload_n F dX9_copy_4 rfl (q := 0) rfl ?_
  refine z_alen (x := 6) F gs_12 rfl rfl dX9_copy_5 ?_
  refine z_aload_n F dX9_copy_6 rfl (q := 1) rfl ?_
  refine z_alen (x := 6) F gs_114 rfl rfl dX9_copy_7 ?_
  refine z_min F mm_X9_85 (Nat.le_of_ble_eq_true rfl) dX9_copy_8 (by omega) (by omega) (fun v1 ev1 => ?_)
  refine z_copyE F (by decide) ac_X9_91 hI gs_12 gs_114 (by omega) (by omega) (by omega) (by omega) (by omega) (by decide) (by decide) (fun i hi => rfl) (Nat.le_of_ble_eq_true rfl) dX9_copy_11 (fun M3 hI g2 kg2 => ?_)
  have hF := hF.call g2 (by decide)
  have hW : WFk M3 := hW.fr g2 (by decide) (by decide)
  exact hret _ 14 _ ⟨hI, hW⟩ ⟨hF, (cp_at (f := M3 114) (g := M 12) (h := M 114) 6 kg2 (by omega))⟩ dX9_copy_14
set_option maxRecDepth 4000 in
theorem k_X9_copy_13_115 (l : Launch) (M : Mem) (hJ : Iw M) : CV l yX9_copy cX9_copy 2 none 1 (fun ad => [.ref (ad 13), .ref (ad 115)]) M (fun M' => Fr [115] M M' ∧ (∀ j : Nat, j < 6 → M' 115 j = M 13 j)) := by
  obtain ⟨hI, hW⟩ := hJ
  have hF : Fr [115] M M := Fr.rf
  refine en_v (by decide +kernel) (fun ad => by exact Nat.le_of_ble_eq_true rfl) (fun D cy ad A p e s m args below meth c Q F hret => ?_)
  refine z_eq (ls' := [(0, .ref (ad 13)), (1, .ref (ad 115))]) rfl rfl rfl ?_
  refine z_aload_n F dX9_copy_0 rfl (q := 0) rfl ?_
  refine z_iconst F dX9_copy_1 ?_
  refine z_aload_n F dX9_copy_2 rfl (q := 1) rfl ?_
  refine z_iconst F dX9_copy_3 ?_
  refine z_aload_n F dX9_copy_4 rfl (q := 0) rfl ?_
  refine z_alen (x := 6) F gs_13 rfl rfl dX9_copy_5 ?_
  refine z_aload_n F dX9_copy_6 rfl (q := 1) rfl ?_
  refine z_alen (x := 6) F gs_115 rfl rfl dX9_copy_7 ?_
  refine z_min F mm_X9_85 (Nat.le_of_ble_eq_true rfl) dX9_copy_8 (by omega) (by omega) (fun v1 ev1 => ?_)
  refine z_copyE F (by decide) ac_X9_91 hI gs_13 gs_115 (by omega) (by omega) (by omega) (by omega) (by omega) (by decide) (by decide) (fun i hi => rfl) (Nat.le_of_ble_eq_true rfl) dX9_copy_11 (fun M3 hI g2 kg2 => ?_)
  have hF := hF.call g2 (by decide)
  have hW : WFk M3 := hW.fr g2 (by decide) (by decide)
  exact hret _ 14 _ ⟨hI, hW⟩ ⟨hF, (cp_at (f := M3 115) (g := M 13) (h := M 115) 6 kg2 (by omega))⟩ dX9_copy_14
set_option maxRecDepth 4000 in
theorem k_X2_copyFrom_116_14 (l : Launch) (M : Mem) (hJ : Iw M) : CV l yX2_copyFrom cX2_copyFrom 2 none 1 (fun ad => [.ref (ad 116), .ref (ad 14)]) M (fun M' => Fr [116, 117] M M') := by
  obtain ⟨hI, hW⟩ := hJ
  have hF : Fr [116, 117] M M := Fr.rf
  refine en_v (by decide +kernel) (fun ad => by exact Nat.le_of_ble_eq_true rfl) (fun D cy ad A p e s m args below meth c Q F hret => ?_)
  refine z_eq (ls' := [(0, .ref (ad 116)), (1, .ref (ad 14))]) rfl rfl rfl ?_
  refine z_aload_n F dX2_copyFrom_0 rfl (q := 0) rfl ?_
  refine z_aload_n F dX2_copyFrom_1 rfl (q := 1) rfl ?_
  refine gf_X2_15 F hI gs_14 rfl bd_14_2 dX2_copyFrom_2 (fun v1 ev1 av1 bv1 => ?_)
  refine pf_X2_15 F hI gs_116 rfl bd_116_2 rfl rfl dX2_copyFrom_5 (by omega) (by omega) (fun M3 hI sf2 f2 => ?_)
  have hF := hF.wr f2 (by decide) (by decide)
  have hW : WFk M3 := hW.site f2 (by decide)
  refine z_aload_n F dX2_copyFrom_8 rfl (q := 0) rfl ?_
  refine z_aload_n F dX2_copyFrom_9 rfl (q := 1) rfl ?_
  refine gf_X2_25 F hI gs_14 rfl bd_14_1 dX2_copyFrom_10 (fun v4 ev4 av4 bv4 => ?_)
  refine pf_X2_25 F hI gs_116 rfl bd_116_1 rfl rfl dX2_copyFrom_13 (by omega) (by omega) (fun M6 hI sf5 f5 => ?_)
  have hF := hF.wr f5 (by decide) (by decide)
  have hW : WFk M6 := hW.site f5 (by decide)
  refine z_aload_n F dX2_copyFrom_16 rfl (q := 1) rfl ?_
  refine rf_X2_9 F gs_14 rfl dX2_copyFrom_17 ?_
  refine z_iconst F dX2_copyFrom_20 ?_
  refine z_aload_n F dX2_copyFrom_21 rfl (q := 0) rfl ?_
  refine rf_X2_9 F gs_116 rfl dX2_copyFrom_22 ?_
  refine z_iconst F dX2_copyFrom_25 ?_
  refine z_aload_n F dX2_copyFrom_26 rfl (q := 1) rfl ?_
  refine gf_X2_25 F hI gs_14 rfl bd_14_1 dX2_copyFrom_27 (fun v7 ev7 av7 bv7 => ?_)
  have q8 : v4 = M6 14 1 := ev4.trans (f5 14 1 (fun q => absurd q.1 (by decide))).symm
  have zv7 : v4 = v7 := q8.trans ev7.symm
  subst zv7
  refine z_copy F (by decide) ac_X2_28 hI gs_15 gs_117 (by omega) (by omega) (by omega) (by omega) (by omega) (by decide) (by decide) (fun i hi => rfl) (Nat.le_of_ble_eq_true rfl) dX2_copyFrom_30 (fun M10 hI g9 => ?_)
  have hF := hF.call g9 (by decide)
  have hW : WFk M10 := hW.fr g9 (by decide) (by decide)
  exact hret _ 33 _ ⟨hI, hW⟩ hF dX2_copyFrom_33
set_option maxRecDepth 4000 in
theorem k_X9_copyFrom_104_2 (l : Launch) (M : Mem) (hJ : Iw M) : CV l yX9_copyFrom cX9_copyFrom 2 none 2 (fun ad => [.ref (ad 104), .ref (ad 2)]) M (fun M' => Fr [104, 105, 106, 107, 108, 109, 110, 111, 112, 113, 114, 115, 116, 117] M M' ∧ (M' 104 0 = M 2 0) ∧ (Cp 2 104 M M')) := by
  obtain ⟨hI, hW⟩ := hJ
  have hF : Fr [104, 105, 106, 107, 108, 109, 110, 111, 112, 113, 114, 115, 116, 117] M M := Fr.rf
  have hI0 := hI
  have hW0 := hW
  refine en_v (by decide +kernel) (fun ad => by exact Nat.le_of_ble_eq_true rfl) (fun D cy ad A p e s m args below meth c Q F hret => ?_)
  refine z_eq (ls' := [(0, .ref (ad 104)), (1, .ref (ad 2))]) rfl rfl rfl ?_
  refine z_aload_n F dX9_copyFrom_0 rfl (q := 0) rfl ?_
  refine z_aload_n F dX9_copyFrom_1 rfl (q := 1) rfl ?_
  refine gf_X9_52 F hI gs_2 rfl bd_2_0 dX9_copyFrom_2 (fun v1 ev1 av1 bv1 => ?_)
  refine pf_X9_52 F hI gs_104 rfl bd_104_0 rfl rfl dX9_copyFrom_5 (by omega) (by omega) (fun M3 hI sf2 f2 => ?_)
  have hF := hF.wr f2 (by decide) (by decide)
  have hW : WFk M3 := hW.site f2 (by decide)
  refine z_aload_n F dX9_copyFrom_8 rfl (q := 0) rfl ?_
  refine z_aload_n F dX9_copyFrom_9 rfl (q := 1) rfl ?_
  refine gf_X9_56 F hI gs_2 rfl bd_2_1 dX9_copyFrom_10 (fun v4 ev4 av4 bv4 => ?_)
  refine pf_X9_56 F hI gs_104 rfl bd_104_1 rfl rfl dX9_copyFrom_13 (by omega) (by omega) (fun M6 hI sf5 f5 => ?_)
  have hF := hF.wr f5 (by decide) (by decide)
  have hW : WFk M6 := hW.site f5 (by decide)
  refine z_aload_n F dX9_copyFrom_16 rfl (q := 0) rfl ?_
  refine z_aload_n F dX9_copyFrom_17 rfl (q := 1) rfl ?_
  refine gf_X9_59 F hI gs_2 rfl bd_2_2 dX9_copyFrom_18 (fun v7 ev7 av7 bv7 => ?_)
  refine pf_X9_59 F hI gs_104 rfl bd_104_2 rfl rfl dX9_copyFrom_21 (by omega) (by omega) (fun M9 hI sf8 f8 => ?_)
  have hF := hF.wr f8 (by decide) (by decide)
  have hW : WFk M9 := hW.site f8 (by decide)
  refine z_aload_n F dX9_copyFrom_24 rfl (q := 0) rfl ?_
  refine z_aload_n F dX9_copyFrom_25 rfl (q := 1) rfl ?_
  refine gf_X9_62 F hI gs_2 rfl bd_2_3 dX9_copyFrom_26 (fun v10 ev10 av10 bv10 => ?_)
  refine pf_X9_62 F hI gs_104 rfl bd_104_3 rfl rfl dX9_copyFrom_29 (by omega) (by omega) (fun M12 hI sf11 f11 => ?_)
  have hF := hF.wr f11 (by decide) (by decide)
  have hW : WFk M12 := hW.site f11 (by decide)
  refine z_aload_n F dX9_copyFrom_32 rfl (q := 0) rfl ?_
  refine z_aload_n F dX9_copyFrom_33 rfl (q := 1) rfl ?_
  refine gf_X9_65 F hI gs_2 rfl bd_2_4 dX9_copyFrom_34 (fun v13 ev13 av13 bv13 => ?_)
  refine pf_X9_65 F hI gs_104 rfl bd_104_4 rfl rfl dX9_copyFrom_37 (by omega) (by omega) (fun M15 hI sf14 f14 => ?_)
  have hF := hF.wr f14 (by decide) (by decide)
  have hW : WFk M15 := hW.site f14 (by decide)
  refine z_aload_n F dX9_copyFrom_40 rfl (q := 0) rfl ?_
  refine z_aload_n F dX9_copyFrom_41 rfl (q := 1) rfl ?_
  refine gf_X9_68 F hI gs_2 rfl bd_2_12 dX9_copyFrom_42 (fun v16 ev16 av16 bv16 => ?_)
  refine pf_X9_68 F hI gs_104 rfl bd_104_12 rfl rfl dX9_copyFrom_45 (by omega) (by omega) (fun M18 hI sf17 f17 => ?_)
  have hF := hF.wr f17 (by decide) (by decide)
  have hW : WFk M18 := hW.site f17 (by decide)
  refine z_aload_n F dX9_copyFrom_48 rfl (q := 1) rfl ?_
  refine rf_X9_9 F gs_2 rfl dX9_copyFrom_49 ?_
  refine z_aload_n F dX9_copyFrom_52 rfl (q := 0) rfl ?_
  refine rf_X9_9 F gs_104 rfl dX9_copyFrom_53 ?_
  refine zs_v (rest := []) F (k_X9_copy_3_105 l M18 ⟨hI, hW⟩) cs_X9_77 (by decide) (by decide) rfl rfl rfl (Nat.le_of_ble_eq_true rfl) dX9_copyFrom_56 (fun M19 hI p20 => ?_)
  obtain ⟨hI, hW⟩ := hI
  obtain ⟨fp20, yp20⟩ := p20
  have hF := hF.call fp20 (by decide)
  refine z_aload_n F dX9_copyFrom_59 rfl (q := 1) rfl ?_
  refine rf_X9_15 F gs_2 rfl dX9_copyFrom_60 ?_
  refine z_aload_n F dX9_copyFrom_63 rfl (q := 0) rfl ?_
  refine rf_X9_15 F gs_104 rfl dX9_copyFrom_64 ?_
  refine zs_v (rest := []) F (k_X9_copy_4_106 l M19 ⟨hI, hW⟩) cs_X9_77 (by decide) (by decide) rfl rfl rfl (Nat.le_of_ble_eq_true rfl) dX9_copyFrom_67 (fun M21 hI p22 => ?_)
  obtain ⟨hI, hW⟩ := hI
  obtain ⟨fp22, yp22⟩ := p22
  have hF := hF.call fp22 (by decide)
  refine z_aload_n F dX9_copyFrom_70 rfl (q := 1) rfl ?_
  refine rf_X9_18 F gs_2 rfl dX9_copyFrom_71 ?_
  refine z_aload_n F dX9_copyFrom_74 rfl (q := 0) rfl ?_
  refine rf_X9_18 F gs_104 rfl dX9_copyFrom_75 ?_
  refine zs_v (rest := []) F (k_X9_copy_5_107 l M21 ⟨hI, hW⟩) cs_X9_77 (by decide) (by decide) rfl rfl rfl (Nat.le_of_ble_eq_true rfl) dX9_copyFrom_78 (fun M23 hI p24 => ?_)
  obtain ⟨hI, hW⟩ := hI
  obtain ⟨fp24, yp24⟩ := p24
  have hF := hF.call fp24 (by decide)
  refine z_aload_n F dX9_copyFrom_81 rfl (q := 1) rfl ?_
  refine rf_X9_21 F gs_2 rfl dX9_copyFrom_82 ?_
  refine z_aload_n F dX9_copyFrom_85 rfl (q := 0) rfl ?_
  refine rf_X9_21 F gs_104 rfl dX9_copyFrom_86 ?_
  refine zs_v (rest := []) F (k_X9_copy_6_108 l M23 ⟨hI, hW⟩) cs_X9_77 (by decide) (by decide) rfl rfl rfl (Nat.le_of_ble_eq_true rfl) dX9_copyFrom_89 (fun M25 hI p26 => ?_)
  obtain ⟨hI, hW⟩ := hI
  obtain ⟨fp26, yp26⟩ := p26
  have hF := hF.call fp26 (by decide)
  refine z_aload_n F dX9_copyFrom_92 rfl (q := 1) rfl ?_
  refine rf_X9_24 F gs_2 rfl dX9_copyFrom_93 ?_
  refine z_aload_n F dX9_copyFrom_96 rfl (q := 0) rfl ?_
  refine rf_X9_24 F gs_104 rfl dX9_copyFrom_97 ?_
  refine zs_v (rest := []) F (k_X9_copy_7_109 l M25 ⟨hI, hW⟩) cs_X9_77 (by decide) (by decide) rfl rfl rfl (Nat.le_of_ble_eq_true rfl) dX9_copyFrom_100 (fun M27 hI p28 => ?_)
  obtain ⟨hI, hW⟩ := hI
  obtain ⟨fp28, yp28⟩ := p28
  have hF := hF.call fp28 (by decide)
  refine z_aload_n F dX9_copyFrom_103 rfl (q := 1) rfl ?_
  refine rf_X9_27 F gs_2 rfl dX9_copyFrom_104 ?_
  refine z_aload_n F dX9_copyFrom_107 rfl (q := 0) rfl ?_
  refine rf_X9_27 F gs_104 rfl dX9_copyFrom_108 ?_
  refine zs_v (rest := []) F (k_X9_copy_8_110 l M27 ⟨hI, hW⟩) cs_X9_77 (by decide) (by decide) rfl rfl rfl (Nat.le_of_ble_eq_true rfl) dX9_copyFrom_111 (fun M29 hI p30 => ?_)
  obtain ⟨hI, hW⟩ := hI
  obtain ⟨fp30, yp30⟩ := p30
  have hF := hF.call fp30 (by decide)
  refine z_aload_n F dX9_copyFrom_114 rfl (q := 1) rfl ?_
  refine rf_X9_30 F gs_2 rfl dX9_copyFrom_115 ?_
  refine z_aload_n F dX9_copyFrom_118 rfl (q := 0) rfl ?_
  refine rf_X9_30 F gs_104 rfl dX9_copyFrom_119 ?_
  refine zs_v (rest := []) F (k_X9_copy_9_111 l M29 ⟨hI, hW⟩) cs_X9_77 (by decide) (by decide) rfl rfl rfl (Nat.le_of_ble_eq_true rfl) dX9_copyFrom_122 (fun M31 hI p32 => ?_)
  obtain ⟨hI, hW⟩ := hI
  obtain ⟨fp32, yp32⟩ := p32
  have hF := hF.call fp32 (by decide)
  refine z_aload_n F dX9_copyFrom_125 rfl (q := 1) rfl ?_
  refine rf_X9_33 F gs_2 rfl dX9_copyFrom_126 ?_
  refine z_aload_n F dX9_copyFrom_129 rfl (q := 0) rfl ?_
  refine rf_X9_33 F gs_104 rfl dX9_copyFrom_130 ?_
  refine zs_v (rest := []) F (k_X9_copy_10_112 l M31 ⟨hI, hW⟩) cs_X9_77 (by decide) (by decide) rfl rfl rfl (Nat.le_of_ble_eq_true rfl) dX9_copyFrom_133 (fun M33 hI p34 => ?_)
  obtain ⟨hI, hW⟩ := hI
  obtain ⟨fp34, yp34⟩ := p34
  have hF := hF.call fp34 (by decide)
  refine z_aload_n F dX9_copyFrom_136 rfl (q := 1) rfl ?_
  refine rf_X9_36 F gs_2 rfl dX9_copyFrom_137 ?_
  refine z_aload_n F dX9_copyFrom_140 rfl (q := 0) rfl ?_
  refine rf_X9_36 F gs_104 rfl dX9_copyFrom_141 ?_
  refine zs_v (rest := []) F (k_X9_copy_11_113 l M33 ⟨hI, hW⟩) cs_X9_77 (by decide) (by decide) rfl rfl rfl (Nat.le_of_ble_eq_true rfl) dX9_copyFrom_144 (fun M35 hI p36 => ?_)
  obtain ⟨hI, hW⟩ := hI
  obtain ⟨fp36, yp36⟩ := p36
  have hF := hF.call fp36 (by decide)
  refine z_aload_n F dX9_copyFrom_147 rfl (q := 1) rfl ?_
  refine rf_X9_39 F gs_2 rfl dX9_copyFrom_148 ?_
  refine z_aload_n F dX9_copyFrom_151 rfl (q := 0) rfl ?_
  refine rf_X9_39 F gs_104 rfl dX9_copyFrom_152 ?_
  refine zs_v (rest := []) F (k_X9_copy_12_114 l M35 ⟨hI, hW⟩) cs_X9_77 (by decide) (by decide) rfl rfl rfl (Nat.le_of_ble_eq_true rfl) dX9_copyFrom_155 (fun M37 hI p38 => ?_)
  obtain ⟨hI, hW⟩ := hI
  obtain ⟨fp38, yp38⟩ := p38
  have hF := hF.call fp38 (by decide)
  refine z_aload_n F dX9_copyFrom_158 rfl (q := 1) rfl ?_
  refine rf_X9_42 F gs_2 rfl dX9_copyFrom_159 ?_
  refine z_aload_n F dX9_copyFrom_162 rfl (q := 0) rfl ?_
  refine rf_X9_42 F gs_104 rfl dX9_copyFrom_163 ?_
  refine zs_v (rest := []) F (k_X9_copy_13_115 l M37 ⟨hI, hW⟩) cs_X9_77 (by decide) (by decide) rfl rfl rfl (Nat.le_of_ble_eq_true rfl) dX9_copyFrom_166 (fun M39 hI p40 => ?_)
  obtain ⟨hI, hW⟩ := hI
  obtain ⟨fp40, yp40⟩ := p40
  have hF := hF.call fp40 (by decide)
  refine z_aload_n F dX9_copyFrom_169 rfl (q := 0) rfl ?_
  refine rf_X9_48 F gs_104 rfl dX9_copyFrom_170 ?_
  refine z_aload_n F dX9_copyFrom_173 rfl (q := 1) rfl ?_
  refine rf_X9_48 F gs_2 rfl dX9_copyFrom_174 ?_
  refine zv_v (rest := []) F (k_X2_copyFrom_116_14 l M39 ⟨hI, hW⟩) cs_X9_81 (T := TX2) (N := 5) (ci := 2) rfl gs_116 (by decide) (by decide) rfl rfl rfl (Nat.le_of_ble_eq_true rfl) dX9_copyFrom_177 (fun M41 hI p42 => ?_)
  obtain ⟨hI, hW⟩ := hI
  have fp42 := p42
  have hF := hF.call fp42 (by decide)
  have q43 : v1 = M6 104 0 := sf2.symm.trans (f5 104 0 (fun q => absurd q.2 (by decide))).symm
  have q44 : v1 = M9 104 0 := q43.trans (f8 104 0 (fun q => absurd q.2 (by decide))).symm
  have q45 : v1 = M12 104 0 := q44.trans (f11 104 0 (fun q => absurd q.2 (by decide))).symm
  have q46 : v1 = M15 104 0 := q45.trans (f14 104 0 (fun q => absurd q.2 (by decide))).symm
  have q47 : v1 = M18 104 0 := q46.trans (f17 104 0 (fun q => absurd q.2 (by decide))).symm
  have q48 : v1 = M19 104 0 := q47.trans ((fp20.at (by decide)) : M19 104 0 = _).symm
  have q49 : v1 = M21 104 0 := q48.trans ((fp22.at (by decide)) : M21 104 0 = _).symm
  have q50 : v1 = M23 104 0 := q49.trans ((fp24.at (by decide)) : M23 104 0 = _).symm
  have q51 : v1 = M25 104 0 := q50.trans ((fp26.at (by decide)) : M25 104 0 = _).symm
  have q52 : v1 = M27 104 0 := q51.trans ((fp28.at (by decide)) : M27 104 0 = _).symm
  have q53 : v1 = M29 104 0 := q52.trans ((fp30.at (by decide)) : M29 104 0 = _).symm
  have q54 : v1 = M31 104 0 := q53.trans ((fp32.at (by decide)) : M31 104 0 = _).symm
  have q55 : v1 = M33 104 0 := q54.trans ((fp34.at (by decide)) : M33 104 0 = _).symm
  have q56 : v1 = M35 104 0 := q55.trans ((fp36.at (by decide)) : M35 104 0 = _).symm
  have q57 : v1 = M37 104 0 := q56.trans ((fp38.at (by decide)) : M37 104 0 = _).symm
  have q58 : v1 = M39 104 0 := q57.trans ((fp40.at (by decide)) : M39 104 0 = _).symm
  have q59 : v1 = M41 104 0 := q58.trans ((fp42.at (by decide)) : M41 104 0 = _).symm
  have q60 : v4 = M9 104 1 := sf5.symm.trans (f8 104 1 (fun q => absurd q.2 (by decide))).symm
  have q61 : v4 = M12 104 1 := q60.trans (f11 104 1 (fun q => absurd q.2 (by decide))).symm
  have q62 : v4 = M15 104 1 := q61.trans (f14 104 1 (fun q => absurd q.2 (by decide))).symm
  have q63 : v4 = M18 104 1 := q62.trans (f17 104 1 (fun q => absurd q.2 (by decide))).symm
  have q64 : v4 = M19 104 1 := q63.trans ((fp20.at (by decide)) : M19 104 1 = _).symm
  have q65 : v4 = M21 104 1 := q64.trans ((fp22.at (by decide)) : M21 104 1 = _).symm
  have q66 : v4 = M23 104 1 := q65.trans ((fp24.at (by decide)) : M23 104 1 = _).symm
  have q67 : v4 = M25 104 1 := q66.trans ((fp26.at (by decide)) : M25 104 1 = _).symm
  have q68 : v4 = M27 104 1 := q67.trans ((fp28.at (by decide)) : M27 104 1 = _).symm
  have q69 : v4 = M29 104 1 := q68.trans ((fp30.at (by decide)) : M29 104 1 = _).symm
  have q70 : v4 = M31 104 1 := q69.trans ((fp32.at (by decide)) : M31 104 1 = _).symm
  have q71 : v4 = M33 104 1 := q70.trans ((fp34.at (by decide)) : M33 104 1 = _).symm
  have q72 : v4 = M35 104 1 := q71.trans ((fp36.at (by decide)) : M35 104 1 = _).symm
  have q73 : v4 = M37 104 1 := q72.trans ((fp38.at (by decide)) : M37 104 1 = _).symm
  have q74 : v4 = M39 104 1 := q73.trans ((fp40.at (by decide)) : M39 104 1 = _).symm
  have q75 : v4 = M41 104 1 := q74.trans ((fp42.at (by decide)) : M41 104 1 = _).symm
  have q76 : v10 = M15 104 3 := sf11.symm.trans (f14 104 3 (fun q => absurd q.2 (by decide))).symm
  have q77 : v10 = M18 104 3 := q76.trans (f17 104 3 (fun q => absurd q.2 (by decide))).symm
  have q78 : v10 = M19 104 3 := q77.trans ((fp20.at (by decide)) : M19 104 3 = _).symm
  have q79 : v10 = M21 104 3 := q78.trans ((fp22.at (by decide)) : M21 104 3 = _).symm
  have q80 : v10 = M23 104 3 := q79.trans ((fp24.at (by decide)) : M23 104 3 = _).symm
  have q81 : v10 = M25 104 3 := q80.trans ((fp26.at (by decide)) : M25 104 3 = _).symm
  have q82 : v10 = M27 104 3 := q81.trans ((fp28.at (by decide)) : M27 104 3 = _).symm
  have q83 : v10 = M29 104 3 := q82.trans ((fp30.at (by decide)) : M29 104 3 = _).symm
  have q84 : v10 = M31 104 3 := q83.trans ((fp32.at (by decide)) : M31 104 3 = _).symm
  have q85 : v10 = M33 104 3 := q84.trans ((fp34.at (by decide)) : M33 104 3 = _).symm
  have q86 : v10 = M35 104 3 := q85.trans ((fp36.at (by decide)) : M35 104 3 = _).symm
  have q87 : v10 = M37 104 3 := q86.trans ((fp38.at (by decide)) : M37 104 3 = _).symm
  have q88 : v10 = M39 104 3 := q87.trans ((fp40.at (by decide)) : M39 104 3 = _).symm
  have q89 : v10 = M41 104 3 := q88.trans ((fp42.at (by decide)) : M41 104 3 = _).symm
  have q90 : v13 = M18 104 4 := sf14.symm.trans (f17 104 4 (fun q => absurd q.2 (by decide))).symm
  have q91 : v13 = M19 104 4 := q90.trans ((fp20.at (by decide)) : M19 104 4 = _).symm
  have q92 : v13 = M21 104 4 := q91.trans ((fp22.at (by decide)) : M21 104 4 = _).symm
  have q93 : v13 = M23 104 4 := q92.trans ((fp24.at (by decide)) : M23 104 4 = _).symm
  have q94 : v13 = M25 104 4 := q93.trans ((fp26.at (by decide)) : M25 104 4 = _).symm
  have q95 : v13 = M27 104 4 := q94.trans ((fp28.at (by decide)) : M27 104 4 = _).symm
  have q96 : v13 = M29 104 4 := q95.trans ((fp30.at (by decide)) : M29 104 4 = _).symm
  have q97 : v13 = M31 104 4 := q96.trans ((fp32.at (by decide)) : M31 104 4 = _).symm
  have q98 : v13 = M33 104 4 := q97.trans ((fp34.at (by decide)) : M33 104 4 = _).symm
  have q99 : v13 = M35 104 4 := q98.trans ((fp36.at (by decide)) : M35 104 4 = _).symm
  have q100 : v13 = M37 104 4 := q99.trans ((fp38.at (by decide)) : M37 104 4 = _).symm
  have q101 : v13 = M39 104 4 := q100.trans ((fp40.at (by decide)) : M39 104 4 = _).symm
  have q102 : v13 = M41 104 4 := q101.trans ((fp42.at (by decide)) : M41 104 4 = _).symm
  exact hret _ 180 _ ⟨hI, hW⟩ ⟨hF, (Eq.trans (Eq.symm q59) ev1), (cp_i (sC_eq (hI0.at (show Bd 2 1 = (0, 10) from rfl)).2 (hI0.at (show Bd 2 4 = (0, 6) from rfl)).2 (q75.symm.trans (ev4.trans (f2 2 1 (fun q => absurd q.1 (by decide))))) (q89.symm.trans (ev10.trans ((f8 2 3 (fun q => absurd q.1 (by decide))).trans ((f5 2 3 (fun q => absurd q.1 (by decide))).trans (f2 2 3 (fun q => absurd q.1 (by decide))))))) (q102.symm.trans (ev13.trans ((f11 2 4 (fun q => absurd q.1 (by decide))).trans ((f8 2 4 (fun q => absurd q.1 (by decide))).trans ((f5 2 4 (fun q => absurd q.1 (by decide))).trans (f2 2 4 (fun q => absurd q.1 (by decide)))))))) (fun j h => ((fp42.at (by decide) : M41 105 j = _).trans ((fp40.at (by decide) : M39 105 j = _).trans ((fp38.at (by decide) : M37 105 j = _).trans ((fp36.at (by decide) : M35 105 j = _).trans ((fp34.at (by decide) : M33 105 j = _).trans ((fp32.at (by decide) : M31 105 j = _).trans ((fp30.at (by decide) : M29 105 j = _).trans ((fp28.at (by decide) : M27 105 j = _).trans ((fp26.at (by decide) : M25 105 j = _).trans ((fp24.at (by decide) : M23 105 j = _).trans (fp22.at (by decide) : M21 105 j = _))))))))))).trans ((yp20 j h).trans ((f17 3 j (fun q => absurd q.1 (by decide))).trans ((f14 3 j (fun q => absurd q.1 (by decide))).trans ((f11 3 j (fun q => absurd q.1 (by decide))).trans ((f8 3 j (fun q => absurd q.1 (by decide))).trans ((f5 3 j (fun q => absurd q.1 (by decide))).trans (f2 3 j (fun q => absurd q.1 (by decide)))))))))) (fun j h => ((fp42.at (by decide) : M41 112 j = _).trans ((fp40.at (by decide) : M39 112 j = _).trans ((fp38.at (by decide) : M37 112 j = _).trans (fp36.at (by decide) : M35 112 j = _)))).trans ((yp34 j h).trans ((fp32.at (by decide) : M31 10 j = _).trans ((fp30.at (by decide) : M29 10 j = _).trans ((fp28.at (by decide) : M27 10 j = _).trans ((fp26.at (by decide) : M25 10 j = _).trans ((fp24.at (by decide) : M23 10 j = _).trans ((fp22.at (by decide) : M21 10 j = _).trans ((fp20.at (by decide) : M19 10 j = _).trans ((f17 10 j (fun q => absurd q.1 (by decide))).trans ((f14 10 j (fun q => absurd q.1 (by decide))).trans ((f11 10 j (fun q => absurd q.1 (by decide))).trans ((f8 10 j (fun q => absurd q.1 (by decide))).trans ((f5 10 j (fun q => absurd q.1 (by decide))).trans (f2 10 j (fun q => absurd q.1 (by decide))))))))))))))))) (fun j h => ((fp42.at (by decide) : M41 113 j = _).trans ((fp40.at (by decide) : M39 113 j = _).trans (fp38.at (by decide) : M37 113 j = _))).trans ((yp36 j h).trans ((fp34.at (by decide) : M33 11 j = _).trans ((fp32.at (by decide) : M31 11 j = _).trans ((fp30.at (by decide) : M29 11 j = _).trans ((fp28.at (by decide) : M27 11 j = _).trans ((fp26.at (by decide) : M25 11 j = _).trans ((fp24.at (by decide) : M23 11 j = _).trans ((fp22.at (by decide) : M21 11 j = _).trans ((fp20.at (by decide) : M19 11 j = _).trans ((f17 11 j (fun q => absurd q.1 (by decide))).trans ((f14 11 j (fun q => absurd q.1 (by decide))).trans ((f11 11 j (fun q => absurd q.1 (by decide))).trans ((f8 11 j (fun q => absurd q.1 (by decide))).trans ((f5 11 j (fun q => absurd q.1 (by decide))).trans (f2 11 j (fun q => absurd q.1 (by decide)))))))))))))))))) (fun j h => ((fp42.at (by decide) : M41 114 j = _).trans (fp40.at (by decide) : M39 114 j = _)).trans ((yp38 j h).trans ((fp36.at (by decide) : M35 12 j = _).trans ((fp34.at (by decide) : M33 12 j = _).trans ((fp32.at (by decide) : M31 12 j = _).trans ((fp30.at (by decide) : M29 12 j = _).trans ((fp28.at (by decide) : M27 12 j = _).trans ((fp26.at (by decide) : M25 12 j = _).trans ((fp24.at (by decide) : M23 12 j = _).trans ((fp22.at (by decide) : M21 12 j = _).trans ((fp20.at (by decide) : M19 12 j = _).trans ((f17 12 j (fun q => absurd q.1 (by decide))).trans ((f14 12 j (fun q => absurd q.1 (by decide))).trans ((f11 12 j (fun q => absurd q.1 (by decide))).trans ((f8 12 j (fun q => absurd q.1 (by decide))).trans ((f5 12 j (fun q => absurd q.1 (by decide))).trans (f2 12 j (fun q => absurd q.1 (by decide)))))))))))))))))))) (fun j h => ((fp42.at (by decide) : M41 107 j = _).trans ((fp40.at (by decide) : M39 107 j = _).trans ((fp38.at (by decide) : M37 107 j = _).trans ((fp36.at (by decide) : M35 107 j = _).trans ((fp34.at (by decide) : M33 107 j = _).trans ((fp32.at (by decide) : M31 107 j = _).trans ((fp30.at (by decide) : M29 107 j = _).trans ((fp28.at (by decide) : M27 107 j = _).trans (fp26.at (by decide) : M25 107 j = _))))))))).trans ((yp24 j h).trans ((fp22.at (by decide) : M21 5 j = _).trans ((fp20.at (by decide) : M19 5 j = _).trans ((f17 5 j (fun q => absurd q.1 (by decide))).trans ((f14 5 j (fun q => absurd q.1 (by decide))).trans ((f11 5 j (fun q => absurd q.1 (by decide))).trans ((f8 5 j (fun q => absurd q.1 (by decide))).trans ((f5 5 j (fun q => absurd q.1 (by decide))).trans (f2 5 j (fun q => absurd q.1 (by decide)))))))))))))⟩ dX9_copyFrom_180
set_option maxRecDepth 4000 in
theorem k_X7_save_35_120 (l : Launch) (M : Mem) (hJ : Iw M) (x1 : Int) (hx1a : (-2147483648) ≤ x1) (hx1b : x1 ≤ 2147483647) (hp0 : x1 % 34 = 0) : CV l yX7_save cX7_save 3 none 1 (fun ad => [.ref (ad 35), .ref (ad 120), ii x1]) M (fun M' => Fr [120] M M') := by
  obtain ⟨hI, hW⟩ := hJ
  have hF : Fr [120] M M := Fr.rf
  refine en_v (by decide +kernel) (fun ad => by exact Nat.le_of_ble_eq_true rfl) (fun D cy ad A p e s m args below meth c Q F hret => ?_)
  refine z_eq (ls' := [(0, .ref (ad 35)), (1, .ref (ad 120)), (2, ii x1)]) rfl rfl rfl ?_
  refine z_iload_n F dX7_save_0 rfl (q := 2) rfl ?_
  refine z_if_lt (tgt := 13) F dX7_save_1 (by decide +kernel) (by omega) (fun c1 => ?_) (fun c1 => ?_)
  · exact hret _ 13 _ ⟨hI, hW⟩ hF dX7_save_13
  · refine z_iload_n F dX7_save_4 rfl (q := 2) rfl ?_
    refine z_aload_n F dX7_save_5 rfl (q := 1) rfl ?_
    refine z_alen (x := 34) F gs_120 rfl rfl dX7_save_6 ?_
    refine z_bipush F dX7_save_7 (by decide +kernel) ?_
    refine z_isub F dX7_save_9 ?_
    refine z_icmp_le (tgt := 14) F dX7_save_10 (by decide +kernel) (by omega) (by omega) (fun c2 => ?_) (fun c2 => ?_)
    · refine z_aload_n F dX7_save_14 rfl (q := 0) rfl ?_
      refine rf_X7_9 F gs_35 rfl dX7_save_15 ?_
      refine z_iconst F dX7_save_18 ?_
      refine z_aload_n F dX7_save_19 rfl (q := 1) rfl ?_
      refine z_iload_n F dX7_save_20 rfl (q := 2) rfl ?_
      refine z_bipush F dX7_save_21 (by decide +kernel) ?_
      refine z_copy F (by decide) ac_X7_50 hI gs_36 gs_120 (by omega) (by omega) (by omega) (by omega) (by omega) (by decide) (by decide) (fun i hi => (show Bd 120 _ = (0, 9) from (bd_120.trans (sc_p (by omega)))).trans (show Bd 36 _ = (0, 9) from rfl).symm) (Nat.le_of_ble_eq_true rfl) dX7_save_23 (fun M4 hI g3 => ?_)
      have hF := hF.call g3 (by decide)
      have hW : WFk M4 := hW.fr g3 (by decide) (by decide)
      refine z_aload_n F dX7_save_26 rfl (q := 0) rfl ?_
      refine rf_X7_15 F gs_35 rfl dX7_save_27 ?_
      refine z_iconst F dX7_save_30 ?_
      refine z_aload_n F dX7_save_31 rfl (q := 1) rfl ?_
      refine z_iload_n F dX7_save_32 rfl (q := 2) rfl ?_
      refine z_bipush F dX7_save_33 (by decide +kernel) ?_
      refine z_iadd F dX7_save_35 ?_
      refine z_bipush F dX7_save_36 (by decide +kernel) ?_
      refine z_copy F (by decide) ac_X7_50 hI gs_37 gs_120 (by omega) (by omega) (by omega) (by omega) (by omega) (by decide) (by decide) (fun i hi => (show Bd 120 _ = (-2147483648, 2147483647) from (bd_120.trans (sc_n (by omega)))).trans (show Bd 37 _ = (-2147483648, 2147483647) from rfl).symm) (Nat.le_of_ble_eq_true rfl) dX7_save_38 (fun M6 hI g5 => ?_)
      have hF := hF.call g5 (by decide)
      have hW : WFk M6 := hW.fr g5 (by decide) (by decide)
      refine z_aload_n F dX7_save_41 rfl (q := 0) rfl ?_
      refine rf_X7_18 F gs_35 rfl dX7_save_42 ?_
      refine z_iconst F dX7_save_45 ?_
      refine z_aload_n F dX7_save_46 rfl (q := 1) rfl ?_
      refine z_iload_n F dX7_save_47 rfl (q := 2) rfl ?_
      refine z_bipush F dX7_save_48 (by decide +kernel) ?_
      refine z_iadd F dX7_save_50 ?_
      refine z_bipush F dX7_save_51 (by decide +kernel) ?_
      refine z_copy F (by decide) ac_X7_50 hI gs_38 gs_120 (by omega) (by omega) (by omega) (by omega) (by omega) (by decide) (by decide) (fun i hi => (show Bd 120 _ = (-2147483648, 2147483647) from (bd_120.trans (sc_n (by omega)))).trans (show Bd 38 _ = (-2147483648, 2147483647) from rfl).symm) (Nat.le_of_ble_eq_true rfl) dX7_save_53 (fun M8 hI g7 => ?_)
      have hF := hF.call g7 (by decide)
      have hW : WFk M8 := hW.fr g7 (by decide) (by decide)
      refine z_aload_n F dX7_save_56 rfl (q := 0) rfl ?_
      refine rf_X7_21 F gs_35 rfl dX7_save_57 ?_
      refine z_iconst F dX7_save_60 ?_
      refine z_aload_n F dX7_save_61 rfl (q := 1) rfl ?_
      refine z_iload_n F dX7_save_62 rfl (q := 2) rfl ?_
      refine z_bipush F dX7_save_63 (by decide +kernel) ?_
      refine z_iadd F dX7_save_65 ?_
      refine z_bipush F dX7_save_66 (by decide +kernel) ?_
      refine z_copy F (by decide) ac_X7_50 hI gs_39 gs_120 (by omega) (by omega) (by omega) (by omega) (by omega) (by decide) (by decide) (fun i hi => (show Bd 120 _ = (-2147483648, 2147483647) from (bd_120.trans (sc_n (by omega)))).trans (show Bd 39 _ = (-2147483648, 2147483647) from rfl).symm) (Nat.le_of_ble_eq_true rfl) dX7_save_68 (fun M10 hI g9 => ?_)
      have hF := hF.call g9 (by decide)
      have hW : WFk M10 := hW.fr g9 (by decide) (by decide)
      refine z_aload_n F dX7_save_71 rfl (q := 1) rfl ?_
      refine z_iload_n F dX7_save_72 rfl (q := 2) rfl ?_
      refine z_bipush F dX7_save_73 (by decide +kernel) ?_
      refine z_iadd F dX7_save_75 ?_
      refine z_iconst F dX7_save_76 ?_
      refine z_isub F dX7_save_77 ?_
      refine z_aload_n F dX7_save_78 rfl (q := 0) rfl ?_
      refine gf_X7_44 F hI gs_35 rfl bd_35_5 dX7_save_79 (fun v11 ev11 av11 bv11 => ?_)
      refine z_iast F hI gs_120 (by omega) (by omega) (by decide) (bd_120.trans (sc_n (by omega))) dX7_save_82 (by omega) (by omega) (fun M13 hI sf12 f12 => ?_)
      have hF := hF.wr f12 (by decide) (by decide)
      have hW : WFk M13 := hW.site f12 (by decide)
      refine z_aload_n F dX7_save_83 rfl (q := 1) rfl ?_
      refine z_iload_n F dX7_save_84 rfl (q := 2) rfl ?_
      refine z_bipush F dX7_save_85 (by decide +kernel) ?_
      refine z_iadd F dX7_save_87 ?_
      refine z_iconst F dX7_save_88 ?_
      refine z_isub F dX7_save_89 ?_
      refine z_aload_n F dX7_save_90 rfl (q := 0) rfl ?_
      refine gf_X7_47 F hI gs_35 rfl bd_35_6 dX7_save_91 (fun v14 ev14 av14 bv14 => ?_)
      refine z_iast F hI gs_120 (by omega) (by omega) (by decide) (bd_120.trans (sc_n (by omega))) dX7_save_94 (by omega) (by omega) (fun M16 hI sf15 f15 => ?_)
      have hF := hF.wr f15 (by decide) (by decide)
      have hW : WFk M16 := hW.site f15 (by decide)
      exact hret _ 95 _ ⟨hI, hW⟩ hF dX7_save_95
    · exact hret _ 13 _ ⟨hI, hW⟩ hF dX7_save_13
set_option maxRecDepth 4000 in
theorem k_X4_copyFrom_121_40 (l : Launch) (M : Mem) (hJ : Iw M) : CV l yX4_copyFrom cX4_copyFrom 2 none 1 (fun ad => [.ref (ad 121), .ref (ad 40)]) M (fun M' => Fr [121, 122] M M') := by
  obtain ⟨hI, hW⟩ := hJ
  have hF : Fr [121, 122] M M := Fr.rf
  refine en_v (by decide +kernel) (fun ad => by exact Nat.le_of_ble_eq_true rfl) (fun D cy ad A p e s m args below meth c Q F hret => ?_)
  refine z_eq (ls' := [(0, .ref (ad 121)), (1, .ref (ad 40))]) rfl rfl rfl ?_
  refine z_aload_n F dX4_copyFrom_0 rfl (q := 0) rfl ?_
  refine z_aload_n F dX4_copyFrom_1 rfl (q := 1) rfl ?_
  refine gf_X4_17 F hI gs_40 rfl bd_40_0 dX4_copyFrom_2 (fun v1 ev1 av1 bv1 => ?_)
  refine pf_X4_17 F hI gs_121 rfl bd_121_0 rfl rfl dX4_copyFrom_5 (by omega) (by omega) (fun M3 hI sf2 f2 => ?_)
  have hF := hF.wr f2 (by decide) (by decide)
  have hW : WFk M3 := hW.site f2 (by decide)
  refine z_aload_n F dX4_copyFrom_8 rfl (q := 0) rfl ?_
  refine z_aload_n F dX4_copyFrom_9 rfl (q := 1) rfl ?_
  refine gf_X4_21 F hI gs_40 rfl bd_40_1 dX4_copyFrom_10 (fun v4 ev4 av4 bv4 => ?_)
  refine pf_X4_21 F hI gs_121 rfl bd_121_1 rfl rfl dX4_copyFrom_13 (by omega) (by omega) (fun M6 hI sf5 f5 => ?_)
  have hF := hF.wr f5 (by decide) (by decide)
  have hW : WFk M6 := hW.site f5 (by decide)
  refine z_aload_n F dX4_copyFrom_16 rfl (q := 1) rfl ?_
  refine rf_X4_11 F gs_40 rfl dX4_copyFrom_17 ?_
  refine z_iconst F dX4_copyFrom_20 ?_
  refine z_aload_n F dX4_copyFrom_21 rfl (q := 0) rfl ?_
  refine rf_X4_11 F gs_121 rfl dX4_copyFrom_22 ?_
  refine z_iconst F dX4_copyFrom_25 ?_
  refine z_aload_n F dX4_copyFrom_26 rfl (q := 0) rfl ?_
  refine rf_X4_11 F gs_121 rfl dX4_copyFrom_27 ?_
  refine z_alen (x := 408) F gs_122 rfl rfl dX4_copyFrom_30 ?_
  refine z_copy F (by decide) ac_X4_40 hI gs_41 gs_122 (by omega) (by omega) (by omega) (by omega) (by omega) (by decide) (by decide) (fun i hi => rfl) (Nat.le_of_ble_eq_true rfl) dX4_copyFrom_31 (fun M8 hI g7 => ?_)
  have hF := hF.call g7 (by decide)
  have hW : WFk M8 := hW.fr g7 (by decide) (by decide)
  exact hret _ 34 _ ⟨hI, hW⟩ hF dX4_copyFrom_34
set_option maxRecDepth 4000 in
theorem k_X1_take_103_2_35_40 (l : Launch) (M : Mem) (hJ : Iw M) : CV l yX1_take cX1_take 4 none 3 (fun ad => [.ref (ad 103), .ref (ad 2), .ref (ad 35), .ref (ad 40)]) M (fun M' => Fr [103, 104, 105, 106, 107, 108, 109, 110, 111, 112, 113, 114, 115, 116, 117, 120, 121, 122] M M' ∧ (M' 103 0 = 1) ∧ (Cp 2 104 M M')) := by
  obtain ⟨hI, hW⟩ := hJ
  have hF : Fr [103, 104, 105, 106, 107, 108, 109, 110, 111, 112, 113, 114, 115, 116, 117, 120, 121, 122] M M := Fr.rf
  refine en_v (by decide +kernel) (fun ad => by exact Nat.le_of_ble_eq_true rfl) (fun D cy ad A p e s m args below meth c Q F hret => ?_)
  refine z_eq (ls' := [(0, .ref (ad 103)), (1, .ref (ad 2)), (2, .ref (ad 35)), (3, .ref (ad 40))]) rfl rfl rfl ?_
  refine z_aload_n F dX1_take_0 rfl (q := 0) rfl ?_
  refine z_iconst F dX1_take_1 ?_
  refine pf_X1_29 F hI gs_103 rfl bd_103_0 (nar_z (by omega) (by omega)) (fit_z (by omega) (by omega)) dX1_take_2 (by omega) (by omega) (fun M2 hI sf1 f1 => ?_)
  have hF := hF.wr f1 (by decide) (by decide)
  have hW : WFk M2 := hW.site f1 (by decide)
  refine z_aload_n F dX1_take_5 rfl (q := 0) rfl ?_
  refine rf_X1_10 F gs_103 rfl dX1_take_6 ?_
  refine z_aload_n F dX1_take_9 rfl (q := 1) rfl ?_
  refine zv_v (rest := []) F (k_X9_copyFrom_104_2 l M2 ⟨hI, hW⟩) cs_X1_33 (T := TX9) (N := 18) (ci := 9) rfl gs_104 (by decide) (by decide) rfl rfl rfl (Nat.le_of_ble_eq_true rfl) dX1_take_10 (fun M3 hI p4 => ?_)
  obtain ⟨hI, hW⟩ := hI
  obtain ⟨fp4, xp4, yp4⟩ := p4
  have hF := hF.call fp4 (by decide)
  refine z_aload_n F dX1_take_13 rfl (q := 2) rfl ?_
  refine z_aload_n F dX1_take_14 rfl (q := 0) rfl ?_
  refine rf_X1_18 F gs_103 rfl dX1_take_15 ?_
  refine z_iconst F dX1_take_18 ?_
  refine zv_v (rest := []) F (k_X7_save_35_120 l M3 ⟨hI, hW⟩ 0 (by omega) (by omega) (by omega)) cs_X1_37 (T := TX7) (N := 7) (ci := 7) rfl gs_35 (by decide) (by decide) rfl rfl rfl (Nat.le_of_ble_eq_true rfl) dX1_take_19 (fun M5 hI p6 => ?_)
  obtain ⟨hI, hW⟩ := hI
  have fp6 := p6
  have hF := hF.call fp6 (by decide)
  refine z_aload_n F dX1_take_22 rfl (q := 0) rfl ?_
  refine rf_X1_25 F gs_103 rfl dX1_take_23 ?_
  refine z_aload_n F dX1_take_26 rfl (q := 3) rfl ?_
  refine zv_v (rest := []) F (k_X4_copyFrom_121_40 l M5 ⟨hI, hW⟩) cs_X1_41 (T := TX4) (N := 3) (ci := 4) rfl gs_121 (by decide) (by decide) rfl rfl rfl (Nat.le_of_ble_eq_true rfl) dX1_take_27 (fun M7 hI p8 => ?_)
  obtain ⟨hI, hW⟩ := hI
  have fp8 := p8
  have hF := hF.call fp8 (by decide)
  have q9 : 1 = M3 103 0 := sf1.symm.trans ((fp4.at (by decide)) : M3 103 0 = _).symm
  have q10 : 1 = M5 103 0 := q9.trans ((fp6.at (by decide)) : M5 103 0 = _).symm
  have q11 : 1 = M7 103 0 := q10.trans ((fp8.at (by decide)) : M7 103 0 = _).symm
  exact hret _ 30 _ ⟨hI, hW⟩ ⟨hF, (by omega), (cp_tr (cp_ws f1 (by decide) (by decide) (by decide) (by decide) (by decide) (by decide) : Cp 2 2 M M2) (cp_tr yp4 (cp_tr (cp_fr fp6 (by decide) (by decide) : Cp 104 104 M3 M5) (cp_fr fp8 (by decide) (by decide) : Cp 104 104 M5 M7))))⟩ dX1_take_30
set_option maxRecDepth 4000 in
theorem k_X11_image (l : Launch) (hlT : l.stackTraces = false) (M : Mem) (hJ : Iw M) (x0 : Int) (hx0a : (-2147483648) ≤ x0) (hx0b : x0 ≤ 2147483647) : CVX l yX11_image cX11_image 2 none 4 1 (fun ad => [.ref (ad 0), ii x0]) M (fun M' => Fr [63, 64, 65, 66, 67, 68, 69, 70, 71, 72, 73, 74, 75, 76, 77, 80, 81, 82, 83, 84, 85, 86, 87, 88, 89, 90, 91, 92, 93, 94, 95, 96, 97, 100, 101, 102, 103, 104, 105, 106, 107, 108, 109, 110, 111, 112, 113, 114, 115, 116, 117, 120, 121, 122] M M' ∧ (x0 = 0 ∧ M' 63 0 = 1 ∧ M' 83 0 = M 83 0 ∧ M' 103 0 = M 103 0 ∨ x0 = 1 ∧ M' 63 0 = M 63 0 ∧ M' 83 0 = 1 ∧ M' 103 0 = M 103 0 ∨ x0 = 2 ∧ M' 63 0 = M 63 0 ∧ M' 83 0 = M 83 0 ∧ M' 103 0 = 1) ∧ (ImC x0 M M')) (fun E M' => (E = "java/util/NoSuchElementException" ∧ ((x0 < 0 ∨ 2 < x0) ∧ M' = M) ∧ Fr [63, 64, 65, 66, 67, 68, 69, 70, 71, 72, 73, 74, 75, 76, 77, 80, 81, 82, 83, 84, 85, 86, 87, 88, 89, 90, 91, 92, 93, 94, 95, 96, 97, 100, 101, 102, 103, 104, 105, 106, 107, 108, 109, 110, 111, 112, 113, 114, 115, 116, 117, 120, 121, 122] M M')) := by
  obtain ⟨hI, hW⟩ := hJ
  have hF : Fr [63, 64, 65, 66, 67, 68, 69, 70, 71, 72, 73, 74, 75, 76, 77, 80, 81, 82, 83, 84, 85, 86, 87, 88, 89, 90, 91, 92, 93, 94, 95, 96, 97, 100, 101, 102, 103, 104, 105, 106, 107, 108, 109, 110, 111, 112, 113, 114, 115, 116, 117, 120, 121, 122] M M := Fr.rf
  refine enx_v (by decide +kernel) (fun ad => by exact Nat.le_of_ble_eq_true rfl) (fun D cy ad A p e s m args below meth c Q F hQ hr hlk hex => ?_)
  refine z_eq (ls' := [(0, .ref (ad 0)), (1, ii x0)]) rfl rfl rfl ?_
  obtain ⟨u1, eu1⟩ : ∃ v : Int, v = M 63 0 := ⟨_, rfl⟩
  have ku1 : 0 ≤ u1 ∧ u1 ≤ 1 := by have := hI.at (show Bd 63 0 = (0, 1) from rfl); omega
  obtain ⟨u2, eu2⟩ : ∃ v : Int, v = M 83 0 := ⟨_, rfl⟩
  have ku2 : 0 ≤ u2 ∧ u2 ≤ 1 := by have := hI.at (show Bd 83 0 = (0, 1) from rfl); omega
  obtain ⟨u3, eu3⟩ : ∃ v : Int, v = M 103 0 := ⟨_, rfl⟩
  have ku3 : 0 ≤ u3 ∧ u3 ≤ 1 := by have := hI.at (show Bd 103 0 = (0, 1) from rfl); omega
  refine z_aload_n F dX11_image_0 rfl (q := 0) rfl ?_
  refine z_iload_n F dX11_image_1 rfl (q := 1) rfl ?_
  refine zy_v (rest := []) F (k_X11_needImage l hlT M ⟨hI, hW⟩ x0 (by omega) (by omega)) cs_X11_474 (T := TX11) (N := 14) (ci := 11) rfl gs_0 (by decide) (by decide) ⟨by decide, by decide⟩ rfl rfl rfl (Nat.le_of_ble_eq_true rfl) dX11_image_2 (fun E M9 hJ9 hx => by obtain ⟨h9, g9, rfl⟩ := hx <;> first | (exact zx_out hQ hlk hex ⟨by decide, by decide⟩ hJ9 (⟨h9, ⟨by omega, rfl⟩, hF⟩))) (fun M4 hI p5 => ?_)
  obtain ⟨hI, hW⟩ := hI
  obtain ⟨rfl, xp5⟩ := p5
  refine z_aload_n F dX11_image_5 rfl (q := 0) rfl ?_
  refine rf_X11_51 F gs_0 rfl dX11_image_6 ?_
  refine z_iload_n F dX11_image_9 rfl (q := 1) rfl ?_
  rcases (show x0 = 0 ∨ x0 = 1 ∨ x0 = 2 by omega) with cq | cq | cq
  · refine z_aald (r := 63) F gs_43 rfl (by omega) (by show x0 < ((3 : Nat) : Int); omega) (by decide) (by rw [cq]; rfl) dX11_image_10 ?_
    refine z_aload_n F dX11_image_11 rfl (q := 0) rfl ?_
    refine rf_X11_16 F gs_0 rfl dX11_image_12 ?_
    refine z_aload_n F dX11_image_15 rfl (q := 0) rfl ?_
    refine rf_X11_34 F gs_0 rfl dX11_image_16 ?_
    refine z_aload_n F dX11_image_19 rfl (q := 0) rfl ?_
    refine rf_X11_41 F gs_0 rfl dX11_image_20 ?_
    refine zw_v (rest := []) F (k_X1_take_63_2_35_40 l M ⟨hI, hW⟩) cs_X11_477 (T := TX1) (N := 4) (ci := 1) rfl gs_63 (by decide) (by decide) ⟨by decide, by decide⟩ rfl rfl rfl (Nat.le_of_ble_eq_true rfl) dX11_image_23 (fun M6 hI p7 => ?_)
    obtain ⟨hI, hW⟩ := hI
    obtain ⟨fp7, xp7, yp7⟩ := p7
    have hF := hF.call fp7 (by decide)
    have q8 : u2 = M6 83 0 := eu2.trans ((fp7.at (by decide)) : M6 83 0 = _).symm
    have q9 : u3 = M6 103 0 := eu3.trans ((fp7.at (by decide)) : M6 103 0 = _).symm
    exact zxr_v F hQ hr hlk dX11_image_26 ⟨by decide, by decide⟩ ⟨hI, hW⟩ ⟨hF, (by omega), (Or.inl ⟨by omega, ⟨(cp_tr (cp_rf : Cp 2 2 M M) (cp_tr yp7 (cp_rf : Cp 64 64 M6 M6))), (cp_fr fp7 (by decide) (by decide) : Cp 84 84 M M6), (cp_fr fp7 (by decide) (by decide) : Cp 104 104 M M6)⟩, by omega, by omega, by omega⟩)⟩
  · refine z_aald (r := 83) F gs_43 rfl (by omega) (by show x0 < ((3 : Nat) : Int); omega) (by decide) (by rw [cq]; rfl) dX11_image_10 ?_
    refine z_aload_n F dX11_image_11 rfl (q := 0) rfl ?_
    refine rf_X11_16 F gs_0 rfl dX11_image_12 ?_
    refine z_aload_n F dX11_image_15 rfl (q := 0) rfl ?_
    refine rf_X11_34 F gs_0 rfl dX11_image_16 ?_
    refine z_aload_n F dX11_image_19 rfl (q := 0) rfl ?_
    refine rf_X11_41 F gs_0 rfl dX11_image_20 ?_
    refine zw_v (rest := []) F (k_X1_take_83_2_35_40 l M ⟨hI, hW⟩) cs_X11_477 (T := TX1) (N := 4) (ci := 1) rfl gs_83 (by decide) (by decide) ⟨by decide, by decide⟩ rfl rfl rfl (Nat.le_of_ble_eq_true rfl) dX11_image_23 (fun M10 hI p11 => ?_)
    obtain ⟨hI, hW⟩ := hI
    obtain ⟨fp11, xp11, yp11⟩ := p11
    have hF := hF.call fp11 (by decide)
    have q12 : u1 = M10 63 0 := eu1.trans ((fp11.at (by decide)) : M10 63 0 = _).symm
    have q13 : u3 = M10 103 0 := eu3.trans ((fp11.at (by decide)) : M10 103 0 = _).symm
    exact zxr_v F hQ hr hlk dX11_image_26 ⟨by decide, by decide⟩ ⟨hI, hW⟩ ⟨hF, (by omega), (Or.inr (Or.inl ⟨by omega, ⟨(cp_fr fp11 (by decide) (by decide) : Cp 64 64 M M10), (cp_tr (cp_rf : Cp 2 2 M M) (cp_tr yp11 (cp_rf : Cp 84 84 M10 M10))), (cp_fr fp11 (by decide) (by decide) : Cp 104 104 M M10)⟩, by omega, by omega, by omega⟩))⟩
  · refine z_aald (r := 103) F gs_43 rfl (by omega) (by show x0 < ((3 : Nat) : Int); omega) (by decide) (by rw [cq]; rfl) dX11_image_10 ?_
    refine z_aload_n F dX11_image_11 rfl (q := 0) rfl ?_
    refine rf_X11_16 F gs_0 rfl dX11_image_12 ?_
    refine z_aload_n F dX11_image_15 rfl (q := 0) rfl ?_
    refine rf_X11_34 F gs_0 rfl dX11_image_16 ?_
    refine z_aload_n F dX11_image_19 rfl (q := 0) rfl ?_
    refine rf_X11_41 F gs_0 rfl dX11_image_20 ?_
    refine zw_v (rest := []) F (k_X1_take_103_2_35_40 l M ⟨hI, hW⟩) cs_X11_477 (T := TX1) (N := 4) (ci := 1) rfl gs_103 (by decide) (by decide) ⟨by decide, by decide⟩ rfl rfl rfl (Nat.le_of_ble_eq_true rfl) dX11_image_23 (fun M14 hI p15 => ?_)
    obtain ⟨hI, hW⟩ := hI
    obtain ⟨fp15, xp15, yp15⟩ := p15
    have hF := hF.call fp15 (by decide)
    have q16 : u1 = M14 63 0 := eu1.trans ((fp15.at (by decide)) : M14 63 0 = _).symm
    have q17 : u2 = M14 83 0 := eu2.trans ((fp15.at (by decide)) : M14 83 0 = _).symm
    exact zxr_v F hQ hr hlk dX11_image_26 ⟨by decide, by decide⟩ ⟨hI, hW⟩ ⟨hF, (by omega), (Or.inr (Or.inr ⟨by omega, ⟨(cp_fr fp15 (by decide) (by decide) : Cp 64 64 M M14), (cp_fr fp15 (by decide) (by decide) : Cp 84 84 M M14), (cp_tr (cp_rf : Cp 2 2 M M) (cp_tr yp15 (cp_rf : Cp 104 104 M14 M14)))⟩, by omega, by omega, by omega⟩))⟩
set_option maxRecDepth 4000 in
theorem k_X9_copy_65_3 (l : Launch) (M : Mem) (hJ : Iw M) : CV l yX9_copy cX9_copy 2 none 1 (fun ad => [.ref (ad 65), .ref (ad 3)]) M (fun M' => Fr [3] M M' ∧ (∀ j : Nat, j < 10 → M' 3 j = M 65 j)) := by
  obtain ⟨hI, hW⟩ := hJ
  have hF : Fr [3] M M := Fr.rf
  refine en_v (by decide +kernel) (fun ad => by exact Nat.le_of_ble_eq_true rfl) (fun D cy ad A p e s m args below meth c Q F hret => ?_)
  refine z_eq (ls' := [(0, .ref (ad 65)), (1, .ref (ad 3))]) rfl rfl rfl ?_
  refine z_aload_n F dX9_copy_0 rfl (q := 0) rfl ?_
  refine z_iconst F dX9_copy_1 ?_
  refine z_aload_n F dX9_copy_2 rfl (q := 1) rfl ?_
  refine z_iconst F dX9_copy_3 ?_
  refine z_aload_n F dX9_copy_4 rfl (q := 0) rfl ?_
  refine z_alen (x := 10) F gs_65 rfl rfl dX9_copy_5 ?_
  refine z_aload_n F dX9_copy_6 rfl (q := 1) rfl ?_
  refine z_alen (x := 10) F gs_3 rfl rfl dX9_copy_7 ?_
  refine z_min F mm_X9_85 (Nat.le_of_ble_eq_true rfl) dX9_copy_8 (by omega) (by omega) (fun v1 ev1 => ?_)
  refine z_copyE F (by decide) ac_X9_91 hI gs_65 gs_3 (by omega) (by omega) (by omega) (by omega) (by omega) (by decide) (by decide) (fun i hi => rfl) (Nat.le_of_ble_eq_true rfl) dX9_copy_11 (fun M3 hI g2 kg2 => ?_)
  have hF := hF.call g2 (by decide)
  have hW : WFk M3 := hW.fr g2 (by decide) (by decide)
  exact hret _ 14 _ ⟨hI, hW⟩ ⟨hF, (cp_at (f := M3 3) (g := M 65) (h := M 3) 10 kg2 (by omega))⟩ dX9_copy_14
set_option maxRecDepth 4000 in
theorem k_X9_copy_66_4 (l : Launch) (M : Mem) (hJ : Iw M) : CV l yX9_copy cX9_copy 2 none 1 (fun ad => [.ref (ad 66), .ref (ad 4)]) M (fun M' => Fr [4] M M' ∧ (∀ j : Nat, j < 10 → M' 4 j = M 66 j)) := by
  obtain ⟨hI, hW⟩ := hJ
  have hF : Fr [4] M M := Fr.rf
  refine en_v (by decide +kernel) (fun ad => by exact Nat.le_of_ble_eq_true rfl) (fun D cy ad A p e s m args below meth c Q F hret => ?_)
  refine z_eq (ls' := [(0, .ref (ad 66)), (1, .ref (ad 4))]) rfl rfl rfl ?_
  refine z_aload_n F dX9_copy_0 rfl (q := 0) rfl ?_
  refine z_iconst F dX9_copy_1 ?_
  refine z_aload_n F dX9_copy_2 rfl (q := 1) rfl ?_
  refine z_iconst F dX9_copy_3 ?_
  refine z_aload_n F dX9_copy_4 rfl (q := 0) rfl ?_
  refine z_alen (x := 10) F gs_66 rfl rfl dX9_copy_5 ?_
  refine z_aload_n F dX9_copy_6 rfl (q := 1) rfl ?_
  refine z_alen (x := 10) F gs_4 rfl rfl dX9_copy_7 ?_
  refine z_min F mm_X9_85 (Nat.le_of_ble_eq_true rfl) dX9_copy_8 (by omega) (by omega) (fun v1 ev1 => ?_)
  refine z_copyE F (by decide) ac_X9_91 hI gs_66 gs_4 (by omega) (by omega) (by omega) (by omega) (by omega) (by decide) (by decide) (fun i hi => rfl) (Nat.le_of_ble_eq_true rfl) dX9_copy_11 (fun M3 hI g2 kg2 => ?_)
  have hF := hF.call g2 (by decide)
  have hW : WFk M3 := hW.fr g2 (by decide) (by decide)
  exact hret _ 14 _ ⟨hI, hW⟩ ⟨hF, (cp_at (f := M3 4) (g := M 66) (h := M 4) 10 kg2 (by omega))⟩ dX9_copy_14
set_option maxRecDepth 4000 in
theorem k_X9_copy_67_5 (l : Launch) (M : Mem) (hJ : Iw M) : CV l yX9_copy cX9_copy 2 none 1 (fun ad => [.ref (ad 67), .ref (ad 5)]) M (fun M' => Fr [5] M M' ∧ (∀ j : Nat, j < 100 → M' 5 j = M 67 j)) := by
  obtain ⟨hI, hW⟩ := hJ
  have hF : Fr [5] M M := Fr.rf
  refine en_v (by decide +kernel) (fun ad => by exact Nat.le_of_ble_eq_true rfl) (fun D cy ad A p e s m args below meth c Q F hret => ?_)
  refine z_eq (ls' := [(0, .ref (ad 67)), (1, .ref (ad 5))]) rfl rfl rfl ?_
  refine z_aload_n F dX9_copy_0 rfl (q := 0) rfl ?_
  refine z_iconst F dX9_copy_1 ?_
  refine z_aload_n F dX9_copy_2 rfl (q := 1) rfl ?_
  refine z_iconst F dX9_copy_3 ?_
  refine z_aload_n F dX9_copy_4 rfl (q := 0) rfl ?_
  refine z_alen (x := 100) F gs_67 rfl rfl dX9_copy_5 ?_
  refine z_aload_n F dX9_copy_6 rfl (q := 1) rfl ?_
  refine z_alen (x := 100) F gs_5 rfl rfl dX9_copy_7 ?_
  refine z_min F mm_X9_85 (Nat.le_of_ble_eq_true rfl) dX9_copy_8 (by omega) (by omega) (fun v1 ev1 => ?_)
  refine z_copyE F (by decide) ac_X9_91 hI gs_67 gs_5 (by omega) (by omega) (by omega) (by omega) (by omega) (by decide) (by decide) (fun i hi => rfl) (Nat.le_of_ble_eq_true rfl) dX9_copy_11 (fun M3 hI g2 kg2 => ?_)
  have hF := hF.call g2 (by decide)
  have hW : WFk M3 := hW.fr g2 (by decide) (by decide)
  exact hret _ 14 _ ⟨hI, hW⟩ ⟨hF, (cp_at (f := M3 5) (g := M 67) (h := M 5) 100 kg2 (by omega))⟩ dX9_copy_14
set_option maxRecDepth 4000 in
theorem k_X9_copy_68_6 (l : Launch) (M : Mem) (hJ : Iw M) : CV l yX9_copy cX9_copy 2 none 1 (fun ad => [.ref (ad 68), .ref (ad 6)]) M (fun M' => Fr [6] M M' ∧ (∀ j : Nat, j < 8 → M' 6 j = M 68 j)) := by
  obtain ⟨hI, hW⟩ := hJ
  have hF : Fr [6] M M := Fr.rf
  refine en_v (by decide +kernel) (fun ad => by exact Nat.le_of_ble_eq_true rfl) (fun D cy ad A p e s m args below meth c Q F hret => ?_)
  refine z_eq (ls' := [(0, .ref (ad 68)), (1, .ref (ad 6))]) rfl rfl rfl ?_
  refine z_aload_n F dX9_copy_0 rfl (q := 0) rfl ?_
  refine z_iconst F dX9_copy_1 ?_
  refine z_aload_n F dX9_copy_2 rfl (q := 1) rfl ?_
  refine z_iconst F dX9_copy_3 ?_
  refine z_aload_n F dX9_copy_4 rfl (q := 0) rfl ?_
  refine z_alen (x := 8) F gs_68 rfl rfl dX9_copy_5 ?_
  refine z_aload_n F dX9_copy_6 rfl (q := 1) rfl ?_
  refine z_alen (x := 8) F gs_6 rfl rfl dX9_copy_7 ?_
  refine z_min F mm_X9_85 (Nat.le_of_ble_eq_true rfl) dX9_copy_8 (by omega) (by omega) (fun v1 ev1 => ?_)
  refine z_copyE F (by decide) ac_X9_91 hI gs_68 gs_6 (by omega) (by omega) (by omega) (by omega) (by omega) (by decide) (by decide) (fun i hi => rfl) (Nat.le_of_ble_eq_true rfl) dX9_copy_11 (fun M3 hI g2 kg2 => ?_)
  have hF := hF.call g2 (by decide)
  have hW : WFk M3 := hW.fr g2 (by decide) (by decide)
  exact hret _ 14 _ ⟨hI, hW⟩ ⟨hF, (cp_at (f := M3 6) (g := M 68) (h := M 6) 8 kg2 (by omega))⟩ dX9_copy_14
set_option maxRecDepth 4000 in
theorem k_X9_copy_69_7 (l : Launch) (M : Mem) (hJ : Iw M) : CV l yX9_copy cX9_copy 2 none 1 (fun ad => [.ref (ad 69), .ref (ad 7)]) M (fun M' => Fr [7] M M' ∧ (∀ j : Nat, j < 8 → M' 7 j = M 69 j)) := by
  obtain ⟨hI, hW⟩ := hJ
  have hF : Fr [7] M M := Fr.rf
  refine en_v (by decide +kernel) (fun ad => by exact Nat.le_of_ble_eq_true rfl) (fun D cy ad A p e s m args below meth c Q F hret => ?_)
  refine z_eq (ls' := [(0, .ref (ad 69)), (1, .ref (ad 7))]) rfl rfl rfl ?_
  refine z_aload_n F dX9_copy_0 rfl (q := 0) rfl ?_
  refine z_iconst F dX9_copy_1 ?_
  refine z_aload_n F dX9_copy_2 rfl (q := 1) rfl ?_
  refine z_iconst F dX9_copy_3 ?_
  refine z_aload_n F dX9_copy_4 rfl (q := 0) rfl ?_
  refine z_alen (x := 8) F gs_69 rfl rfl dX9_copy_5 ?_
  refine z_aload_n F dX9_copy_6 rfl (q := 1) rfl ?_
  refine z_alen (x := 8) F gs_7 rfl rfl dX9_copy_7 ?_
  refine z_min F mm_X9_85 (Nat.le_of_ble_eq_true rfl) dX9_copy_8 (by omega) (by omega) (fun v1 ev1 => ?_)
  refine z_copyE F (by decide) ac_X9_91 hI gs_69 gs_7 (by omega) (by omega) (by omega) (by omega) (by omega) (by decide) (by decide) (fun i hi => rfl) (Nat.le_of_ble_eq_true rfl) dX9_copy_11 (fun M3 hI g2 kg2 => ?_)
  have hF := hF.call g2 (by decide)
  have hW : WFk M3 := hW.fr g2 (by decide) (by decide)
  exact hret _ 14 _ ⟨hI, hW⟩ ⟨hF, (cp_at (f := M3 7) (g := M 69) (h := M 7) 8 kg2 (by omega))⟩ dX9_copy_14
set_option maxRecDepth 4000 in
theorem k_X9_copy_70_8 (l : Launch) (M : Mem) (hJ : Iw M) : CV l yX9_copy cX9_copy 2 none 1 (fun ad => [.ref (ad 70), .ref (ad 8)]) M (fun M' => Fr [8] M M' ∧ (∀ j : Nat, j < 8 → M' 8 j = M 70 j)) := by
  obtain ⟨hI, hW⟩ := hJ
  have hF : Fr [8] M M := Fr.rf
  refine en_v (by decide +kernel) (fun ad => by exact Nat.le_of_ble_eq_true rfl) (fun D cy ad A p e s m args below meth c Q F hret => ?_)
  refine z_eq (ls' := [(0, .ref (ad 70)), (1, .ref (ad 8))]) rfl rfl rfl ?_
  refine z_aload_n F dX9_copy_0 rfl (q := 0) rfl ?_
  refine z_iconst F dX9_copy_1 ?_
  refine z_aload_n F dX9_copy_2 rfl (q := 1) rfl ?_
  refine z_iconst F dX9_copy_3 ?_
  refine z_aload_n F dX9_copy_4 rfl (q := 0) rfl ?_
  refine z_alen (x := 8) F gs_70 rfl rfl dX9_copy_5 ?_
  refine z_aload_n F dX9_copy_6 rfl (q := 1) rfl ?_
  refine z_alen (x := 8) F gs_8 rfl rfl dX9_copy_7 ?_
  refine z_min F mm_X9_85 (Nat.le_of_ble_eq_true rfl) dX9_copy_8 (by omega) (by omega) (fun v1 ev1 => ?_)
  refine z_copyE F (by decide) ac_X9_91 hI gs_70 gs_8 (by omega) (by omega) (by omega) (by omega) (by omega) (by decide) (by decide) (fun i hi => rfl) (Nat.le_of_ble_eq_true rfl) dX9_copy_11 (fun M3 hI g2 kg2 => ?_)
  have hF := hF.call g2 (by decide)
  have hW : WFk M3 := hW.fr g2 (by decide) (by decide)
  exact hret _ 14 _ ⟨hI, hW⟩ ⟨hF, (cp_at (f := M3 8) (g := M 70) (h := M 8) 8 kg2 (by omega))⟩ dX9_copy_14
set_option maxRecDepth 4000 in
theorem k_X9_copy_71_9 (l : Launch) (M : Mem) (hJ : Iw M) : CV l yX9_copy cX9_copy 2 none 1 (fun ad => [.ref (ad 71), .ref (ad 9)]) M (fun M' => Fr [9] M M' ∧ (∀ j : Nat, j < 8 → M' 9 j = M 71 j)) := by
  obtain ⟨hI, hW⟩ := hJ
  have hF : Fr [9] M M := Fr.rf
  refine en_v (by decide +kernel) (fun ad => by exact Nat.le_of_ble_eq_true rfl) (fun D cy ad A p e s m args below meth c Q F hret => ?_)
  refine z_eq (ls' := [(0, .ref (ad 71)), (1, .ref (ad 9))]) rfl rfl rfl ?_
  refine z_aload_n F dX9_copy_0 rfl (q := 0) rfl ?_
  refine z_iconst F dX9_copy_1 ?_
  refine z_aload_n F dX9_copy_2 rfl (q := 1) rfl ?_
  refine z_iconst F dX9_copy_3 ?_
  refine z_aload_n F dX9_copy_4 rfl (q := 0) rfl ?_
  refine z_alen (x := 8) F gs_71 rfl rfl dX9_copy_5 ?_
  refine z_aload_n F dX9_copy_6 rfl (q := 1) rfl ?_
  refine z_alen (x := 8) F gs_9 rfl rfl dX9_copy_7 ?_
  refine z_min F mm_X9_85 (Nat.le_of_ble_eq_true rfl) dX9_copy_8 (by omega) (by omega) (fun v1 ev1 => ?_)
  refine z_copyE F (by decide) ac_X9_91 hI gs_71 gs_9 (by omega) (by omega) (by omega) (by omega) (by omega) (by decide) (by decide) (fun i hi => rfl) (Nat.le_of_ble_eq_true rfl) dX9_copy_11 (fun M3 hI g2 kg2 => ?_)
  have hF := hF.call g2 (by decide)
  have hW : WFk M3 := hW.fr g2 (by decide) (by decide)
  exact hret _ 14 _ ⟨hI, hW⟩ ⟨hF, (cp_at (f := M3 9) (g := M 71) (h := M 9) 8 kg2 (by omega))⟩ dX9_copy_14
set_option maxRecDepth 4000 in
theorem k_X9_copy_72_10 (l : Launch) (M : Mem) (hJ : Iw M) : CV l yX9_copy cX9_copy 2 none 1 (fun ad => [.ref (ad 72), .ref (ad 10)]) M (fun M' => Fr [10] M M' ∧ (∀ j : Nat, j < 6 → M' 10 j = M 72 j)) := by
  obtain ⟨hI, hW⟩ := hJ
  have hF : Fr [10] M M := Fr.rf
  refine en_v (by decide +kernel) (fun ad => by exact Nat.le_of_ble_eq_true rfl) (fun D cy ad A p e s m args below meth c Q F hret => ?_)
  refine z_eq (ls' := [(0, .ref (ad 72)), (1, .ref (ad 10))]) rfl rfl rfl ?_
  refine z_aload_n F dX9_copy_0 rfl (q := 0) rfl ?_
  refine z_iconst F dX9_copy_1 ?_
  refine z_aload_n F dX9_copy_2 rfl (q := 1) rfl ?_
  refine z_iconst F dX9_copy_3 ?_
  refine z_aload_n F dX9_copy_4 rfl (q := 0) rfl ?_
  refine z_alen (x := 6) F gs_72 rfl rfl dX9_copy_5 ?_
  refine z_aload_n F dX9_copy_6 rfl (q := 1) rfl ?_
  refine z_alen (x := 6) F gs_10 rfl rfl dX9_copy_7 ?_
  refine z_min F mm_X9_85 (Nat.le_of_ble_eq_true rfl) dX9_copy_8 (by omega) (by omega) (fun v1 ev1 => ?_)
  refine z_copyE F (by decide) ac_X9_91 hI gs_72 gs_10 (by omega) (by omega) (by omega) (by omega) (by omega) (by decide) (by decide) (fun i hi => rfl) (Nat.le_of_ble_eq_true rfl) dX9_copy_11 (fun M3 hI g2 kg2 => ?_)
  have hF := hF.call g2 (by decide)
  have hW : WFk M3 := hW.fr g2 (by decide) (by decide)
  exact hret _ 14 _ ⟨hI, hW⟩ ⟨hF, (cp_at (f := M3 10) (g := M 72) (h := M 10) 6 kg2 (by omega))⟩ dX9_copy_14
set_option maxRecDepth 4000 in
theorem k_X9_copy_73_11 (l : Launch) (M : Mem) (hJ : Iw M) : CV l yX9_copy cX9_copy 2 none 1 (fun ad => [.ref (ad 73), .ref (ad 11)]) M (fun M' => Fr [11] M M' ∧ (∀ j : Nat, j < 6 → M' 11 j = M 73 j)) := by
  obtain ⟨hI, hW⟩ := hJ
  have hF : Fr [11] M M := Fr.rf
  refine en_v (by decide +kernel) (fun ad => by exact Nat.le_of_ble_eq_true rfl) (fun D cy ad A p e s m args below meth c Q F hret => ?_)
  refine z_eq (ls' := [(0, .ref (ad 73)), (1, .ref (ad 11))]) rfl rfl rfl ?_
  refine z_aload_n F dX9_copy_0 rfl (q := 0) rfl ?_
  refine z_iconst F dX9_copy_1 ?_
  refine z_aload_n F dX9_copy_2 rfl (q := 1) rfl ?_
  refine z_iconst F dX9_copy_3 ?_
  refine z_aload_n F dX9_copy_4 rfl (q := 0) rfl ?_
  refine z_alen (x := 6) F gs_73 rfl rfl dX9_copy_5 ?_
  refine z_aload_n F dX9_copy_6 rfl (q := 1) rfl ?_
  refine z_alen (x := 6) F gs_11 rfl rfl dX9_copy_7 ?_
  refine z_min F mm_X9_85 (Nat.le_of_ble_eq_true rfl) dX9_copy_8 (by omega) (by omega) (fun v1 ev1 => ?_)
  refine z_copyE F (by decide) ac_X9_91 hI gs_73 gs_11 (by omega) (by omega) (by omega) (by omega) (by omega) (by decide) (by decide) (fun i hi => rfl) (Nat.le_of_ble_eq_true rfl) dX9_copy_11 (fun M3 hI g2 kg2 => ?_)
  have hF := hF.call g2 (by decide)
  have hW : WFk M3 := hW.fr g2 (by decide) (by decide)
  exact hret _ 14 _ ⟨hI, hW⟩ ⟨hF, (cp_at (f := M3 11) (g := M 73) (h := M 11) 6 kg2 (by omega))⟩ dX9_copy_14
set_option maxRecDepth 4000 in
theorem k_X9_copy_74_12 (l : Launch) (M : Mem) (hJ : Iw M) : CV l yX9_copy cX9_copy 2 none 1 (fun ad => [.ref (ad 74), .ref (ad 12)]) M (fun M' => Fr [12] M M' ∧ (∀ j : Nat, j < 6 → M' 12 j = M 74 j)) := by
  obtain ⟨hI, hW⟩ := hJ
  have hF : Fr [12] M M := Fr.rf
  refine en_v (by decide +kernel) (fun ad => by exact Nat.le_of_ble_eq_true rfl) (fun D cy ad A p e s m args below meth c Q F hret => ?_)
  refine z_eq (ls' := [(0, .ref (ad 74)), (1, .ref (ad 12))]) rfl rfl rfl ?_
  refine z_aload_n F dX9_copy_0 rfl (q := 0) rfl ?_
  refine z_iconst F dX9_copy_1 ?_
  refine z_aload_n F dX9_copy_2 rfl (q := 1) rfl ?_
  refine z_iconst F dX9_copy_3 ?_
  refine z_aload_n F dX9_copy_4 rfl (q := 0) rfl ?_
  refine z_alen (x := 6) F gs_74 rfl rfl dX9_copy_5 ?_
  refine z_aload_n F dX9_copy_6 rfl (q := 1) rfl ?_
  refine z_alen (x := 6) F gs_12 rfl rfl dX9_copy_7 ?_
  refine z_min F mm_X9_85 (Nat.le_of_ble_eq_true rfl) dX9_copy_8 (by omega) (by omega) (fun v1 ev1 => ?_)
  refine z_copyE F (by decide) ac_X9_91 hI gs_74 gs_12 (by omega) (by omega) (by omega) (by omega) (by omega) (by decide) (by decide) (fun i hi => rfl) (Nat.le_of_ble_eq_true rfl) dX9_copy_11 (fun M3 hI g2 kg2 => ?_)
  have hF := hF.call g2 (by decide)
  have hW : WFk M3 := hW.fr g2 (by decide) (by decide)
  exact hret _ 14 _ ⟨hI, hW⟩ ⟨hF, (cp_at (f := M3 12) (g := M 74) (h := M 12) 6 kg2 (by omega))⟩ dX9_copy_14
