theorem dX1_take_0 : decode cX1_take 0 = .ok (.aload_n 0, 1) := by decide +kernel
theorem dX1_take_1 : decode cX1_take 1 = .ok (.iconst 1, 1) := by decide +kernel
theorem dX1_take_10 : decode cX1_take 10 = .ok (.invokevirtual 33, 3) := by decide +kernel
theorem dX1_take_13 : decode cX1_take 13 = .ok (.aload_n 2, 1) := by decide +kernel
theorem dX1_take_14 : decode cX1_take 14 = .ok (.aload_n 0, 1) := by decide +kernel
theorem dX1_take_15 : decode cX1_take 15 = .ok (.getfield 18, 3) := by decide +kernel
theorem dX1_take_18 : decode cX1_take 18 = .ok (.iconst 0, 1) := by decide +kernel
theorem dX1_take_19 : decode cX1_take 19 = .ok (.invokevirtual 37, 3) := by decide +kernel
theorem dX1_take_2 : decode cX1_take 2 = .ok (.putfield 29, 3) := by decide +kernel
theorem dX1_take_22 : decode cX1_take 22 = .ok (.aload_n 0, 1) := by decide +kernel
theorem dX1_take_23 : decode cX1_take 23 = .ok (.getfield 25, 3) := by decide +kernel
theorem dX1_take_26 : decode cX1_take 26 = .ok (.aload_n 3, 1) := by decide +kernel
theorem dX1_take_27 : decode cX1_take 27 = .ok (.invokevirtual 41, 3) := by decide +kernel
theorem dX1_take_30 : decode cX1_take 30 = .ok (.return_, 1) := by decide +kernel
theorem dX1_take_5 : decode cX1_take 5 = .ok (.aload_n 0, 1) := by decide +kernel
theorem dX1_take_6 : decode cX1_take 6 = .ok (.getfield 10, 3) := by decide +kernel
theorem dX1_take_9 : decode cX1_take 9 = .ok (.aload_n 1, 1) := by decide +kernel
theorem dX2_copyFrom_0 : decode cX2_copyFrom 0 = .ok (.aload_n 0, 1) := by decide +kernel
theorem dX2_copyFrom_1 : decode cX2_copyFrom 1 = .ok (.aload_n 1, 1) := by decide +kernel
theorem dX2_copyFrom_10 : decode cX2_copyFrom 10 = .ok (.getfield 25, 3) := by decide +kernel
theorem dX2_copyFrom_13 : decode cX2_copyFrom 13 = .ok (.putfield 25, 3) := by decide +kernel
theorem dX2_copyFrom_16 : decode cX2_copyFrom 16 = .ok (.aload_n 1, 1) := by decide +kernel
theorem dX2_copyFrom_17 : decode cX2_copyFrom 17 = .ok (.getfield 9, 3) := by decide +kernel
theorem dX2_copyFrom_2 : decode cX2_copyFrom 2 = .ok (.getfield 15, 3) := by decide +kernel
theorem dX2_copyFrom_20 : decode cX2_copyFrom 20 = .ok (.iconst 0, 1) := by decide +kernel
theorem dX2_copyFrom_21 : decode cX2_copyFrom 21 = .ok (.aload_n 0, 1) := by decide +kernel
theorem dX2_copyFrom_22 : decode cX2_copyFrom 22 = .ok (.getfield 9, 3) := by decide +kernel
theorem dX2_copyFrom_25 : decode cX2_copyFrom 25 = .ok (.iconst 0, 1) := by decide +kernel
theorem dX2_copyFrom_26 : decode cX2_copyFrom 26 = .ok (.aload_n 1, 1) := by decide +kernel
theorem dX2_copyFrom_27 : decode cX2_copyFrom 27 = .ok (.getfield 25, 3) := by decide +kernel
theorem dX2_copyFrom_30 : decode cX2_copyFrom 30 = .ok (.invokestatic 28, 3) := by decide +kernel
theorem dX2_copyFrom_33 : decode cX2_copyFrom 33 = .ok (.return_, 1) := by decide +kernel
theorem dX2_copyFrom_5 : decode cX2_copyFrom 5 = .ok (.putfield 15, 3) := by decide +kernel
theorem dX2_copyFrom_8 : decode cX2_copyFrom 8 = .ok (.aload_n 0, 1) := by decide +kernel
theorem dX2_copyFrom_9 : decode cX2_copyFrom 9 = .ok (.aload_n 1, 1) := by decide +kernel
theorem dX4_copyFrom_0 : decode cX4_copyFrom 0 = .ok (.aload_n 0, 1) := by decide +kernel
theorem dX4_copyFrom_1 : decode cX4_copyFrom 1 = .ok (.aload_n 1, 1) := by decide +kernel
theorem dX4_copyFrom_10 : decode cX4_copyFrom 10 = .ok (.getfield 21, 3) := by decide +kernel
theorem dX4_copyFrom_13 : decode cX4_copyFrom 13 = .ok (.putfield 21, 3) := by decide +kernel
theorem dX4_copyFrom_16 : decode cX4_copyFrom 16 = .ok (.aload_n 1, 1) := by decide +kernel
theorem dX4_copyFrom_17 : decode cX4_copyFrom 17 = .ok (.getfield 11, 3) := by decide +kernel
theorem dX4_copyFrom_2 : decode cX4_copyFrom 2 = .ok (.getfield 17, 3) := by decide +kernel
theorem dX4_copyFrom_20 : decode cX4_copyFrom 20 = .ok (.iconst 0, 1) := by decide +kernel
theorem dX4_copyFrom_21 : decode cX4_copyFrom 21 = .ok (.aload_n 0, 1) := by decide +kernel
theorem dX4_copyFrom_22 : decode cX4_copyFrom 22 = .ok (.getfield 11, 3) := by decide +kernel
theorem dX4_copyFrom_25 : decode cX4_copyFrom 25 = .ok (.iconst 0, 1) := by decide +kernel
theorem dX4_copyFrom_26 : decode cX4_copyFrom 26 = .ok (.aload_n 0, 1) := by decide +kernel
theorem dX4_copyFrom_27 : decode cX4_copyFrom 27 = .ok (.getfield 11, 3) := by decide +kernel
theorem dX4_copyFrom_30 : decode cX4_copyFrom 30 = .ok (.arraylength, 1) := by decide +kernel
theorem dX4_copyFrom_31 : decode cX4_copyFrom 31 = .ok (.invokestatic 40, 3) := by decide +kernel
theorem dX4_copyFrom_34 : decode cX4_copyFrom 34 = .ok (.return_, 1) := by decide +kernel
theorem dX4_copyFrom_5 : decode cX4_copyFrom 5 = .ok (.putfield 17, 3) := by decide +kernel
theorem dX4_copyFrom_8 : decode cX4_copyFrom 8 = .ok (.aload_n 0, 1) := by decide +kernel
theorem dX4_copyFrom_9 : decode cX4_copyFrom 9 = .ok (.aload_n 1, 1) := by decide +kernel
theorem dX9_copyFrom_0 : decode cX9_copyFrom 0 = .ok (.aload_n 0, 1) := by decide +kernel
theorem dX9_copyFrom_1 : decode cX9_copyFrom 1 = .ok (.aload_n 1, 1) := by decide +kernel
theorem dX9_copyFrom_10 : decode cX9_copyFrom 10 = .ok (.getfield 56, 3) := by decide +kernel
theorem dX9_copyFrom_100 : decode cX9_copyFrom 100 = .ok (.invokestatic 77, 3) := by decide +kernel
theorem dX9_copyFrom_103 : decode cX9_copyFrom 103 = .ok (.aload_n 1, 1) := by decide +kernel
theorem dX9_copyFrom_104 : decode cX9_copyFrom 104 = .ok (.getfield 27, 3) := by decide +kernel
theorem dX9_copyFrom_107 : decode cX9_copyFrom 107 = .ok (.aload_n 0, 1) := by decide +kernel
theorem dX9_copyFrom_108 : decode cX9_copyFrom 108 = .ok (.getfield 27, 3) := by decide +kernel
theorem dX9_copyFrom_111 : decode cX9_copyFrom 111 = .ok (.invokestatic 77, 3) := by decide +kernel
theorem dX9_copyFrom_114 : decode cX9_copyFrom 114 = .ok (.aload_n 1, 1) := by decide +kernel
theorem dX9_copyFrom_115 : decode cX9_copyFrom 115 = .ok (.getfield 30, 3) := by decide +kernel
theorem dX9_copyFrom_118 : decode cX9_copyFrom 118 = .ok (.aload_n 0, 1) := by decide +kernel
theorem dX9_copyFrom_119 : decode cX9_copyFrom 119 = .ok (.getfield 30, 3) := by decide +kernel
theorem dX9_copyFrom_122 : decode cX9_copyFrom 122 = .ok (.invokestatic 77, 3) := by decide +kernel
theorem dX9_copyFrom_125 : decode cX9_copyFrom 125 = .ok (.aload_n 1, 1) := by decide +kernel
theorem dX9_copyFrom_126 : decode cX9_copyFrom 126 = .ok (.getfield 33, 3) := by decide +kernel
theorem dX9_copyFrom_129 : decode cX9_copyFrom 129 = .ok (.aload_n 0, 1) := by decide +kernel
theorem dX9_copyFrom_13 : decode cX9_copyFrom 13 = .ok (.putfield 56, 3) := by decide +kernel
theorem dX9_copyFrom_130 : decode cX9_copyFrom 130 = .ok (.getfield 33, 3) := by decide +kernel
theorem dX9_copyFrom_133 : decode cX9_copyFrom 133 = .ok (.invokestatic 77, 3) := by decide +kernel
theorem dX9_copyFrom_136 : decode cX9_copyFrom 136 = .ok (.aload_n 1, 1) := by decide +kernel
theorem dX9_copyFrom_137 : decode cX9_copyFrom 137 = .ok (.getfield 36, 3) := by decide +kernel
theorem dX9_copyFrom_140 : decode cX9_copyFrom 140 = .ok (.aload_n 0, 1) := by decide +kernel
theorem dX9_copyFrom_141 : decode cX9_copyFrom 141 = .ok (.getfield 36, 3) := by decide +kernel
theorem dX9_copyFrom_144 : decode cX9_copyFrom 144 = .ok (.invokestatic 77, 3) := by decide +kernel
theorem dX9_copyFrom_147 : decode cX9_copyFrom 147 = .ok (.aload_n 1, 1) := by decide +kernel
theorem dX9_copyFrom_148 : decode cX9_copyFrom 148 = .ok (.getfield 39, 3) := by decide +kernel
theorem dX9_copyFrom_151 : decode cX9_copyFrom 151 = .ok (.aload_n 0, 1) := by decide +kernel
theorem dX9_copyFrom_152 : decode cX9_copyFrom 152 = .ok (.getfield 39, 3) := by decide +kernel
theorem dX9_copyFrom_155 : decode cX9_copyFrom 155 = .ok (.invokestatic 77, 3) := by decide +kernel
theorem dX9_copyFrom_158 : decode cX9_copyFrom 158 = .ok (.aload_n 1, 1) := by decide +kernel
theorem dX9_copyFrom_159 : decode cX9_copyFrom 159 = .ok (.getfield 42, 3) := by decide +kernel
theorem dX9_copyFrom_16 : decode cX9_copyFrom 16 = .ok (.aload_n 0, 1) := by decide +kernel
theorem dX9_copyFrom_162 : decode cX9_copyFrom 162 = .ok (.aload_n 0, 1) := by decide +kernel
theorem dX9_copyFrom_163 : decode cX9_copyFrom 163 = .ok (.getfield 42, 3) := by decide +kernel
theorem dX9_copyFrom_166 : decode cX9_copyFrom 166 = .ok (.invokestatic 77, 3) := by decide +kernel
theorem dX9_copyFrom_169 : decode cX9_copyFrom 169 = .ok (.aload_n 0, 1) := by decide +kernel
theorem dX9_copyFrom_17 : decode cX9_copyFrom 17 = .ok (.aload_n 1, 1) := by decide +kernel
theorem dX9_copyFrom_170 : decode cX9_copyFrom 170 = .ok (.getfield 48, 3) := by decide +kernel
theorem dX9_copyFrom_173 : decode cX9_copyFrom 173 = .ok (.aload_n 1, 1) := by decide +kernel
theorem dX9_copyFrom_174 : decode cX9_copyFrom 174 = .ok (.getfield 48, 3) := by decide +kernel
theorem dX9_copyFrom_177 : decode cX9_copyFrom 177 = .ok (.invokevirtual 81, 3) := by decide +kernel
theorem dX9_copyFrom_18 : decode cX9_copyFrom 18 = .ok (.getfield 59, 3) := by decide +kernel
theorem dX9_copyFrom_180 : decode cX9_copyFrom 180 = .ok (.return_, 1) := by decide +kernel
theorem dX9_copyFrom_2 : decode cX9_copyFrom 2 = .ok (.getfield 52, 3) := by decide +kernel
theorem dX9_copyFrom_21 : decode cX9_copyFrom 21 = .ok (.putfield 59, 3) := by decide +kernel
theorem dX9_copyFrom_24 : decode cX9_copyFrom 24 = .ok (.aload_n 0, 1) := by decide +kernel
theorem dX9_copyFrom_25 : decode cX9_copyFrom 25 = .ok (.aload_n 1, 1) := by decide +kernel
theorem dX9_copyFrom_26 : decode cX9_copyFrom 26 = .ok (.getfield 62, 3) := by decide +kernel
theorem dX9_copyFrom_29 : decode cX9_copyFrom 29 = .ok (.putfield 62, 3) := by decide +kernel
theorem dX9_copyFrom_32 : decode cX9_copyFrom 32 = .ok (.aload_n 0, 1) := by decide +kernel
theorem dX9_copyFrom_33 : decode cX9_copyFrom 33 = .ok (.aload_n 1, 1) := by decide +kernel
theorem dX9_copyFrom_34 : decode cX9_copyFrom 34 = .ok (.getfield 65, 3) := by decide +kernel
theorem dX9_copyFrom_37 : decode cX9_copyFrom 37 = .ok (.putfield 65, 3) := by decide +kernel
theorem dX9_copyFrom_40 : decode cX9_copyFrom 40 = .ok (.aload_n 0, 1) := by decide +kernel
theorem dX9_copyFrom_41 : decode cX9_copyFrom 41 = .ok (.aload_n 1, 1) := by decide +kernel
theorem dX9_copyFrom_42 : decode cX9_copyFrom 42 = .ok (.getfield 68, 3) := by decide +kernel
theorem dX9_copyFrom_45 : decode cX9_copyFrom 45 = .ok (.putfield 68, 3) := by decide +kernel
theorem dX9_copyFrom_48 : decode cX9_copyFrom 48 = .ok (.aload_n 1, 1) := by decide +kernel
theorem dX9_copyFrom_49 : decode cX9_copyFrom 49 = .ok (.getfield 9, 3) := by decide +kernel
theorem dX9_copyFrom_5 : decode cX9_copyFrom 5 = .ok (.putfield 52, 3) := by decide +kernel
theorem dX9_copyFrom_52 : decode cX9_copyFrom 52 = .ok (.aload_n 0, 1) := by decide +kernel
theorem dX9_copyFrom_53 : decode cX9_copyFrom 53 = .ok (.getfield 9, 3) := by decide +kernel
theorem dX9_copyFrom_56 : decode cX9_copyFrom 56 = .ok (.invokestatic 77, 3) := by decide +kernel
theorem dX9_copyFrom_59 : decode cX9_copyFrom 59 = .ok (.aload_n 1, 1) := by decide +kernel
theorem dX9_copyFrom_60 : decode cX9_copyFrom 60 = .ok (.getfield 15, 3) := by decide +kernel
theorem dX9_copyFrom_63 : decode cX9_copyFrom 63 = .ok (.aload_n 0, 1) := by decide +kernel
theorem dX9_copyFrom_64 : decode cX9_copyFrom 64 = .ok (.getfield 15, 3) := by decide +kernel
theorem dX9_copyFrom_67 : decode cX9_copyFrom 67 = .ok (.invokestatic 77, 3) := by decide +kernel
theorem dX9_copyFrom_70 : decode cX9_copyFrom 70 = .ok (.aload_n 1, 1) := by decide +kernel
theorem dX9_copyFrom_71 : decode cX9_copyFrom 71 = .ok (.getfield 18, 3) := by decide +kernel
theorem dX9_copyFrom_74 : decode cX9_copyFrom 74 = .ok (.aload_n 0, 1) := by decide +kernel
theorem dX9_copyFrom_75 : decode cX9_copyFrom 75 = .ok (.getfield 18, 3) := by decide +kernel
theorem dX9_copyFrom_78 : decode cX9_copyFrom 78 = .ok (.invokestatic 77, 3) := by decide +kernel
theorem dX9_copyFrom_8 : decode cX9_copyFrom 8 = .ok (.aload_n 0, 1) := by decide +kernel
theorem dX9_copyFrom_81 : decode cX9_copyFrom 81 = .ok (.aload_n 1, 1) := by decide +kernel
theorem dX9_copyFrom_82 : decode cX9_copyFrom 82 = .ok (.getfield 21, 3) := by decide +kernel
theorem dX9_copyFrom_85 : decode cX9_copyFrom 85 = .ok (.aload_n 0, 1) := by decide +kernel
theorem dX9_copyFrom_86 : decode cX9_copyFrom 86 = .ok (.getfield 21, 3) := by decide +kernel
theorem dX9_copyFrom_89 : decode cX9_copyFrom 89 = .ok (.invokestatic 77, 3) := by decide +kernel
theorem dX9_copyFrom_9 : decode cX9_copyFrom 9 = .ok (.aload_n 1, 1) := by decide +kernel
theorem dX9_copyFrom_92 : decode cX9_copyFrom 92 = .ok (.aload_n 1, 1) := by decide +kernel
theorem dX9_copyFrom_93 : decode cX9_copyFrom 93 = .ok (.getfield 24, 3) := by decide +kernel
theorem dX9_copyFrom_96 : decode cX9_copyFrom 96 = .ok (.aload_n 0, 1) := by decide +kernel
theorem dX9_copyFrom_97 : decode cX9_copyFrom 97 = .ok (.getfield 24, 3) := by decide +kernel
set_option maxRecDepth 4000 in
theorem k_X2_copyFrom_76_14 (l : Launch) (M : Mem) (hJ : Iw M) : CV l yX2_copyFrom cX2_copyFrom 2 none 1 (fun ad => [.ref (ad 76), .ref (ad 14)]) M (fun M' => Fr [76, 77] M M') := by
  obtain ⟨hI, hW⟩ := hJ
  have hF : Fr [76, 77] M M := Fr.rf
  refine en_v (by decide +kernel) (fun ad => by exact Nat.le_of_ble_eq_true rfl) (fun D cy ad A p e s m args below meth c Q F hret => ?_)
  refine z_eq (ls' := [(0, .ref (ad 76)), (1, .ref (ad 14))]) rfl rfl rfl ?_
  refine z_aload_n F dX2_copyFrom_0 rfl (q := 0) rfl ?_
  refine z_aload_n F dX2_copyFrom_1 rfl (q := 1) rfl ?_
  refine gf_X2_15 F hI gs_14 rfl bd_14_2 dX2_copyFrom_2 (fun v1 ev1 av1 bv1 => ?_)
  refine pf_X2_15 F hI gs_76 rfl bd_76_2 rfl rfl dX2_copyFrom_5 (by omega) (by omega) (fun M3 hI sf2 f2 => ?_)
  have hF := hF.wr f2 (by decide) (by decide)
  have hW : WFk M3 := hW.site f2 (by decide)
  refine z_aload_n F dX2_copyFrom_8 rfl (q := 0) rfl ?_
  refine z_aload_n F dX2_copyFrom_9 rfl (q := 1) rfl ?_
  refine gf_X2_25 F hI gs_14 rfl bd_14_1 dX2_copyFrom_10 (fun v4 ev4 av4 bv4 => ?_)
  refine pf_X2_25 F hI gs_76 rfl bd_76_1 rfl rfl dX2_copyFrom_13 (by omega) (by omega) (fun M6 hI sf5 f5 => ?_)
  have hF := hF.wr f5 (by decide) (by decide)
  have hW : WFk M6 := hW.site f5 (by decide)
  refine z_aload_n F dX2_copyFrom_16 rfl (q := 1) rfl ?_
  refine rf_X2_9 F gs_14 rfl dX2_copyFrom_17 ?_
  refine z_iconst F dX2_copyFrom_20 ?_
  refine z_aload_n F dX2_copyFrom_21 rfl (q := 0) rfl ?_
  refine rf_X2_9 F gs_76 rfl dX2_copyFrom_22 ?_
  refine z_iconst F dX2_copyFrom_25 ?_
  refine z_aload_n F dX2_copyFrom_26 rfl (q := 1) rfl ?_
  refine gf_X2_25 F hI gs_14 rfl bd_14_1 dX2_copyFrom_27 (fun v7 ev7 av7 bv7 => ?_)
  have q8 : v4 = M6 14 1 := ev4.trans (f5 14 1 (fun q => absurd q.1 (by decide))).symm
  have zv7 : v4 = v7 := q8.trans ev7.symm
  subst zv7
  refine z_copy F (by decide) ac_X2_28 hI gs_15 gs_77 (by omega) (by omega) (by omega) (by omega) (by omega) (by decide) (by decide) (fun i hi => rfl) (Nat.le_of_ble_eq_true rfl) dX2_copyFrom_30 (fun M10 hI g9 => ?_)
  have hF := hF.call g9 (by decide)
  have hW : WFk M10 := hW.fr g9 (by decide) (by decide)
  exact hret _ 33 _ ⟨hI, hW⟩ hF dX2_copyFrom_33
set_option maxRecDepth 4000 in
theorem k_X9_copyFrom_64_2 (l : Launch) (M : Mem) (hJ : Iw M) : CV l yX9_copyFrom cX9_copyFrom 2 none 2 (fun ad => [.ref (ad 64), .ref (ad 2)]) M (fun M' => Fr [64, 65, 66, 67, 68, 69, 70, 71, 72, 73, 74, 75, 76, 77] M M' ∧ (M' 64 0 = M 2 0) ∧ (Cp 2 64 M M')) := by
  obtain ⟨hI, hW⟩ := hJ
  have hF : Fr [64, 65, 66, 67, 68, 69, 70, 71, 72, 73, 74, 75, 76, 77] M M := Fr.rf
  have hI0 := hI
  have hW0 := hW
  refine en_v (by decide +kernel) (fun ad => by exact Nat.le_of_ble_eq_true rfl) (fun D cy ad A p e s m args below meth c Q F hret => ?_)
  refine z_eq (ls' := [(0, .ref (ad 64)), (1, .ref (ad 2))]) rfl rfl rfl ?_
  refine z_aload_n F dX9_copyFrom_0 rfl (q := 0) rfl ?_
  refine z_aload_n F dX9_copyFrom_1 rfl (q := 1) rfl ?_
  refine gf_X9_52 F hI gs_2 rfl bd_2_0 dX9_copyFrom_2 (fun v1 ev1 av1 bv1 => ?_)
  refine pf_X9_52 F hI gs_64 rfl bd_64_0 rfl rfl dX9_copyFrom_5 (by omega) (by omega) (fun M3 hI sf2 f2 => ?_)
  have hF := hF.wr f2 (by decide) (by decide)
  have hW : WFk M3 := hW.site f2 (by decide)
  refine z_aload_n F dX9_copyFrom_8 rfl (q := 0) rfl ?_
  refine z_aload_n F dX9_copyFrom_9 rfl (q := 1) rfl ?_
  refine gf_X9_56 F hI gs_2 rfl bd_2_1 dX9_copyFrom_10 (fun v4 ev4 av4 bv4 => ?_)
  refine pf_X9_56 F hI gs_64 rfl bd_64_1 rfl rfl dX9_copyFrom_13 (by omega) (by omega) (fun M6 hI sf5 f5 => ?_)
  have hF := hF.wr f5 (by decide) (by decide)
  have hW : WFk M6 := hW.site f5 (by decide)
  refine z_aload_n F dX9_copyFrom_16 rfl (q := 0) rfl ?_
  refine z_aload_n F dX9_copyFrom_17 rfl (q := 1) rfl ?_
  refine gf_X9_59 F hI gs_2 rfl bd_2_2 dX9_copyFrom_18 (fun v7 ev7 av7 bv7 => ?_)
  refine pf_X9_59 F hI gs_64 rfl bd_64_2 rfl rfl dX9_copyFrom_21 (by omega) (by omega) (fun M9 hI sf8 f8 => ?_)
  have hF := hF.wr f8 (by decide) (by decide)
  have hW : WFk M9 := hW.site f8 (by decide)
  refine z_aload_n F dX9_copyFrom_24 rfl (q := 0) rfl ?_
  refine z_aload_n F dX9_copyFrom_25 rfl (q := 1) rfl ?_
  refine gf_X9_62 F hI gs_2 rfl bd_2_3 dX9_copyFrom_26 (fun v10 ev10 av10 bv10 => ?_)
  refine pf_X9_62 F hI gs_64 rfl bd_64_3 rfl rfl dX9_copyFrom_29 (by omega) (by omega) (fun M12 hI sf11 f11 => ?_)
  have hF := hF.wr f11 (by decide) (by decide)
  have hW : WFk M12 := hW.site f11 (by decide)
  refine z_aload_n F dX9_copyFrom_32 rfl (q := 0) rfl ?_
  refine z_aload_n F dX9_copyFrom_33 rfl (q := 1) rfl ?_
  refine gf_X9_65 F hI gs_2 rfl bd_2_4 dX9_copyFrom_34 (fun v13 ev13 av13 bv13 => ?_)
  refine pf_X9_65 F hI gs_64 rfl bd_64_4 rfl rfl dX9_copyFrom_37 (by omega) (by omega) (fun M15 hI sf14 f14 => ?_)
  have hF := hF.wr f14 (by decide) (by decide)
  have hW : WFk M15 := hW.site f14 (by decide)
  refine z_aload_n F dX9_copyFrom_40 rfl (q := 0) rfl ?_
  refine z_aload_n F dX9_copyFrom_41 rfl (q := 1) rfl ?_
  refine gf_X9_68 F hI gs_2 rfl bd_2_12 dX9_copyFrom_42 (fun v16 ev16 av16 bv16 => ?_)
  refine pf_X9_68 F hI gs_64 rfl bd_64_12 rfl rfl dX9_copyFrom_45 (by omega) (by omega) (fun M18 hI sf17 f17 => ?_)
  have hF := hF.wr f17 (by decide) (by decide)
  have hW : WFk M18 := hW.site f17 (by decide)
  refine z_aload_n F dX9_copyFrom_48 rfl (q := 1) rfl ?_
  refine rf_X9_9 F gs_2 rfl dX9_copyFrom_49 ?_
  refine z_aload_n F dX9_copyFrom_52 rfl (q := 0) rfl ?_
  refine rf_X9_9 F gs_64 rfl dX9_copyFrom_53 ?_
  refine zs_v (rest := []) F (k_X9_copy_3_65 l M18 ⟨hI, hW⟩) cs_X9_77 (by decide) (by decide) rfl rfl rfl (Nat.le_of_ble_eq_true rfl) dX9_copyFrom_56 (fun M19 hI p20 => ?_)
  obtain ⟨hI, hW⟩ := hI
  obtain ⟨fp20, yp20⟩ := p20
  have hF := hF.call fp20 (by decide)
  refine z_aload_n F dX9_copyFrom_59 rfl (q := 1) rfl ?_
  refine rf_X9_15 F gs_2 rfl dX9_copyFrom_60 ?_
  refine z_aload_n F dX9_copyFrom_63 rfl (q := 0) rfl ?_
  refine rf_X9_15 F gs_64 rfl dX9_copyFrom_64 ?_
  refine zs_v (rest := []) F (k_X9_copy_4_66 l M19 ⟨hI, hW⟩) cs_X9_77 (by decide) (by decide) rfl rfl rfl (Nat.le_of_ble_eq_true rfl) dX9_copyFrom_67 (fun M21 hI p22 => ?_)
  obtain ⟨hI, hW⟩ := hI
  obtain ⟨fp22, yp22⟩ := p22
  have hF := hF.call fp22 (by decide)
  refine z_aload_n F dX9_copyFrom_70 rfl (q := 1) rfl ?_
  refine rf_X9_18 F gs_2 rfl dX9_copyFrom_71 ?_
  refine z_aload_n F dX9_copyFrom_74 rfl (q := 0) rfl ?_
  refine rf_X9_18 F gs_64 rfl dX9_copyFrom_75 ?_
  refine zs_v (rest := []) F (k_X9_copy_5_67 l M21 ⟨hI, hW⟩) cs_X9_77 (by decide) (by decide) rfl rfl rfl (Nat.le_of_ble_eq_true rfl) dX9_copyFrom_78 (fun M23 hI p24 => ?_)
  obtain ⟨hI, hW⟩ := hI
  obtain ⟨fp24, yp24⟩ := p24
  have hF := hF.call fp24 (by decide)
  refine z_aload_n F dX9_copyFrom_81 rfl (q := 1) rfl ?_
  refine rf_X9_21 F gs_2 rfl dX9_copyFrom_82 ?_
  refine z_aload_n F dX9_copyFrom_85 rfl (q := 0) rfl ?_
  refine rf_X9_21 F gs_64 rfl dX9_copyFrom_86 ?_
  refine zs_v (rest := []) F (k_X9_copy_6_68 l M23 ⟨hI, hW⟩) cs_X9_77 (by decide) (by decide) rfl rfl rfl (Nat.le_of_ble_eq_true rfl) dX9_copyFrom_89 (fun M25 hI p26 => ?_)
  obtain ⟨hI, hW⟩ := hI
  obtain ⟨fp26, yp26⟩ := p26
  have hF := hF.call fp26 (by decide)
  refine z_aload_n F dX9_copyFrom_92 rfl (q := 1) rfl ?_
  refine rf_X9_24 F gs_2 rfl dX9_copyFrom_93 ?_
  refine z_aload_n F dX9_copyFrom_96 rfl (q := 0) rfl ?_
  refine rf_X9_24 F gs_64 rfl dX9_copyFrom_97 ?_
  refine zs_v (rest := []) F (k_X9_copy_7_69 l M25 ⟨hI, hW⟩) cs_X9_77 (by decide) (by decide) rfl rfl rfl (Nat.le_of_ble_eq_true rfl) dX9_copyFrom_100 (fun M27 hI p28 => ?_)
  obtain ⟨hI, hW⟩ := hI
  obtain ⟨fp28, yp28⟩ := p28
  have hF := hF.call fp28 (by decide)
  refine z_aload_n F dX9_copyFrom_103 rfl (q := 1) rfl ?_
  refine rf_X9_27 F gs_2 rfl dX9_copyFrom_104 ?_
  refine z_aload_n F dX9_copyFrom_107 rfl (q := 0) rfl ?_
  refine rf_X9_27 F gs_64 rfl dX9_copyFrom_108 ?_
  refine zs_v (rest := []) F (k_X9_copy_8_70 l M27 ⟨hI, hW⟩) cs_X9_77 (by decide) (by decide) rfl rfl rfl (Nat.le_of_ble_eq_true rfl) dX9_copyFrom_111 (fun M29 hI p30 => ?_)
  obtain ⟨hI, hW⟩ := hI
  obtain ⟨fp30, yp30⟩ := p30
  have hF := hF.call fp30 (by decide)
  refine z_aload_n F dX9_copyFrom_114 rfl (q := 1) rfl ?_
  refine rf_X9_30 F gs_2 rfl dX9_copyFrom_115 ?_
  refine z_aload_n F dX9_copyFrom_118 rfl (q := 0) rfl ?_
  refine rf_X9_30 F gs_64 rfl dX9_copyFrom_119 ?_
  refine zs_v (rest := []) F (k_X9_copy_9_71 l M29 ⟨hI, hW⟩) cs_X9_77 (by decide) (by decide) rfl rfl rfl (Nat.le_of_ble_eq_true rfl) dX9_copyFrom_122 (fun M31 hI p32 => ?_)
  obtain ⟨hI, hW⟩ := hI
  obtain ⟨fp32, yp32⟩ := p32
  have hF := hF.call fp32 (by decide)
  refine z_aload_n F dX9_copyFrom_125 rfl (q := 1) rfl ?_
  refine rf_X9_33 F gs_2 rfl dX9_copyFrom_126 ?_
  refine z_aload_n F dX9_copyFrom_129 rfl (q := 0) rfl ?_
  refine rf_X9_33 F gs_64 rfl dX9_copyFrom_130 ?_
  refine zs_v (rest := []) F (k_X9_copy_10_72 l M31 ⟨hI, hW⟩) cs_X9_77 (by decide) (by decide) rfl rfl rfl (Nat.le_of_ble_eq_true rfl) dX9_copyFrom_133 (fun M33 hI p34 => ?_)
  obtain ⟨hI, hW⟩ := hI
  obtain ⟨fp34, yp34⟩ := p34
  have hF := hF.call fp34 (by decide)
  refine z_aload_n F dX9_copyFrom_136 rfl (q := 1) rfl ?_
  refine rf_X9_36 F gs_2 rfl dX9_copyFrom_137 ?_
  refine z_aload_n F dX9_copyFrom_140 rfl (q := 0) rfl ?_
  refine rf_X9_36 F gs_64 rfl dX9_copyFrom_141 ?_
  refine zs_v (rest := []) F (k_X9_copy_11_73 l M33 ⟨hI, hW⟩) cs_X9_77 (by decide) (by decide) rfl rfl rfl (Nat.le_of_ble_eq_true rfl) dX9_copyFrom_144 (fun M35 hI p36 => ?_)
  obtain ⟨hI, hW⟩ := hI
  obtain ⟨fp36, yp36⟩ := p36
  have hF := hF.call fp36 (by decide)
  refine z_aload_n F dX9_copyFrom_147 rfl (q := 1) rfl ?_
  refine rf_X9_39 F gs_2 rfl dX9_copyFrom_148 ?_
  refine z_aload_n F dX9_copyFrom_151 rfl (q := 0) rfl ?_
  refine rf_X9_39 F gs_64 rfl dX9_copyFrom_152 ?_
  refine zs_v (rest := []) F (k_X9_copy_12_74 l M35 ⟨hI, hW⟩) cs_X9_77 (by decide) (by decide) rfl rfl rfl (Nat.le_of_ble_eq_true rfl) dX9_copyFrom_155 (fun M37 hI p38 => ?_)
  obtain ⟨hI, hW⟩ := hI
  obtain ⟨fp38, yp38⟩ := p38
  have hF := hF.call fp38 (by decide)
  refine z_aload_n F dX9_copyFrom_158 rfl (q := 1) rfl ?_
  refine rf_X9_42 F gs_2 rfl dX9_copyFrom_159 ?_
  refine z_aload_n F dX9_copyFrom_162 rfl (q := 0) rfl ?_
  refine rf_X9_42 F gs_64 rfl dX9_copyFrom_163 ?_
  refine zs_v (rest := []) F (k_X9_copy_13_75 l M37 ⟨hI, hW⟩) cs_X9_77 (by decide) (by decide) rfl rfl rfl (Nat.le_of_ble_eq_true rfl) dX9_copyFrom_166 (fun M39 hI p40 => ?_)
  obtain ⟨hI, hW⟩ := hI
  obtain ⟨fp40, yp40⟩ := p40
  have hF := hF.call fp40 (by decide)
  refine z_aload_n F dX9_copyFrom_169 rfl (q := 0) rfl ?_
  refine rf_X9_48 F gs_64 rfl dX9_copyFrom_170 ?_
  refine z_aload_n F dX9_copyFrom_173 rfl (q := 1) rfl ?_
  refine rf_X9_48 F gs_2 rfl dX9_copyFrom_174 ?_
  refine zv_v (rest := []) F (k_X2_copyFrom_76_14 l M39 ⟨hI, hW⟩) cs_X9_81 (T := TX2) (N := 5) (ci := 2) rfl gs_76 (by decide) (by decide) rfl rfl rfl (Nat.le_of_ble_eq_true rfl) dX9_copyFrom_177 (fun M41 hI p42 => ?_)
  obtain ⟨hI, hW⟩ := hI
  have fp42 := p42
  have hF := hF.call fp42 (by decide)
  have q43 : v1 = M6 64 0 := sf2.symm.trans (f5 64 0 (fun q => absurd q.2 (by decide))).symm
  have q44 : v1 = M9 64 0 := q43.trans (f8 64 0 (fun q => absurd q.2 (by decide))).symm
  have q45 : v1 = M12 64 0 := q44.trans (f11 64 0 (fun q => absurd q.2 (by decide))).symm
  have q46 : v1 = M15 64 0 := q45.trans (f14 64 0 (fun q => absurd q.2 (by decide))).symm
  have q47 : v1 = M18 64 0 := q46.trans (f17 64 0 (fun q => absurd q.2 (by decide))).symm
  have q48 : v1 = M19 64 0 := q47.trans ((fp20.at (by decide)) : M19 64 0 = _).symm
  have q49 : v1 = M21 64 0 := q48.trans ((fp22.at (by decide)) : M21 64 0 = _).symm
  have q50 : v1 = M23 64 0 := q49.trans ((fp24.at (by decide)) : M23 64 0 = _).symm
  have q51 : v1 = M25 64 0 := q50.trans ((fp26.at (by decide)) : M25 64 0 = _).symm
  have q52 : v1 = M27 64 0 := q51.trans ((fp28.at (by decide)) : M27 64 0 = _).symm
  have q53 : v1 = M29 64 0 := q52.trans ((fp30.at (by decide)) : M29 64 0 = _).symm
  have q54 : v1 = M31 64 0 := q53.trans ((fp32.at (by decide)) : M31 64 0 = _).symm
  have q55 : v1 = M33 64 0 := q54.trans ((fp34.at (by decide)) : M33 64 0 = _).symm
  have q56 : v1 = M35 64 0 := q55.trans ((fp36.at (by decide)) : M35 64 0 = _).symm
  have q57 : v1 = M37 64 0 := q56.trans ((fp38.at (by decide)) : M37 64 0 = _).symm
  have q58 : v1 = M39 64 0 := q57.trans ((fp40.at (by decide)) : M39 64 0 = _).symm
  have q59 : v1 = M41 64 0 := q58.trans ((fp42.at (by decide)) : M41 64 0 = _).symm
  have q60 : v4 = M9 64 1 := sf5.symm.trans (f8 64 1 (fun q => absurd q.2 (by decide))).symm
  have q61 : v4 = M12 64 1 := q60.trans (f11 64 1 (fun q => absurd q.2 (by decide))).symm
  have q62 : v4 = M15 64 1 := q61.trans (f14 64 1 (fun q => absurd q.2 (by decide))).symm
  have q63 : v4 = M18 64 1 := q62.trans (f17 64 1 (fun q => absurd q.2 (by decide))).symm
  have q64 : v4 = M19 64 1 := q63.trans ((fp20.at (by decide)) : M19 64 1 = _).symm
  have q65 : v4 = M21 64 1 := q64.trans ((fp22.at (by decide)) : M21 64 1 = _).symm
  have q66 : v4 = M23 64 1 := q65.trans ((fp24.at (by decide)) : M23 64 1 = _).symm
  have q67 : v4 = M25 64 1 := q66.trans ((fp26.at (by decide)) : M25 64 1 = _).symm
  have q68 : v4 = M27 64 1 := q67.trans ((fp28.at (by decide)) : M27 64 1 = _).symm
  have q69 : v4 = M29 64 1 := q68.trans ((fp30.at (by decide)) : M29 64 1 = _).symm
  have q70 : v4 = M31 64 1 := q69.trans ((fp32.at (by decide)) : M31 64 1 = _).symm
  have q71 : v4 = M33 64 1 := q70.trans ((fp34.at (by decide)) : M33 64 1 = _).symm
  have q72 : v4 = M35 64 1 := q71.trans ((fp36.at (by decide)) : M35 64 1 = _).symm
  have q73 : v4 = M37 64 1 := q72.trans ((fp38.at (by decide)) : M37 64 1 = _).symm
  have q74 : v4 = M39 64 1 := q73.trans ((fp40.at (by decide)) : M39 64 1 = _).symm
  have q75 : v4 = M41 64 1 := q74.trans ((fp42.at (by decide)) : M41 64 1 = _).symm
  have q76 : v10 = M15 64 3 := sf11.symm.trans (f14 64 3 (fun q => absurd q.2 (by decide))).symm
  have q77 : v10 = M18 64 3 := q76.trans (f17 64 3 (fun q => absurd q.2 (by decide))).symm
  have q78 : v10 = M19 64 3 := q77.trans ((fp20.at (by decide)) : M19 64 3 = _).symm
  have q79 : v10 = M21 64 3 := q78.trans ((fp22.at (by decide)) : M21 64 3 = _).symm
  have q80 : v10 = M23 64 3 := q79.trans ((fp24.at (by decide)) : M23 64 3 = _).symm
  have q81 : v10 = M25 64 3 := q80.trans ((fp26.at (by decide)) : M25 64 3 = _).symm
  have q82 : v10 = M27 64 3 := q81.trans ((fp28.at (by decide)) : M27 64 3 = _).symm
  have q83 : v10 = M29 64 3 := q82.trans ((fp30.at (by decide)) : M29 64 3 = _).symm
  have q84 : v10 = M31 64 3 := q83.trans ((fp32.at (by decide)) : M31 64 3 = _).symm
  have q85 : v10 = M33 64 3 := q84.trans ((fp34.at (by decide)) : M33 64 3 = _).symm
  have q86 : v10 = M35 64 3 := q85.trans ((fp36.at (by decide)) : M35 64 3 = _).symm
  have q87 : v10 = M37 64 3 := q86.trans ((fp38.at (by decide)) : M37 64 3 = _).symm
  have q88 : v10 = M39 64 3 := q87.trans ((fp40.at (by decide)) : M39 64 3 = _).symm
  have q89 : v10 = M41 64 3 := q88.trans ((fp42.at (by decide)) : M41 64 3 = _).symm
  have q90 : v13 = M18 64 4 := sf14.symm.trans (f17 64 4 (fun q => absurd q.2 (by decide))).symm
  have q91 : v13 = M19 64 4 := q90.trans ((fp20.at (by decide)) : M19 64 4 = _).symm
  have q92 : v13 = M21 64 4 := q91.trans ((fp22.at (by decide)) : M21 64 4 = _).symm
  have q93 : v13 = M23 64 4 := q92.trans ((fp24.at (by decide)) : M23 64 4 = _).symm
  have q94 : v13 = M25 64 4 := q93.trans ((fp26.at (by decide)) : M25 64 4 = _).symm
  have q95 : v13 = M27 64 4 := q94.trans ((fp28.at (by decide)) : M27 64 4 = _).symm
  have q96 : v13 = M29 64 4 := q95.trans ((fp30.at (by decide)) : M29 64 4 = _).symm
  have q97 : v13 = M31 64 4 := q96.trans ((fp32.at (by decide)) : M31 64 4 = _).symm
  have q98 : v13 = M33 64 4 := q97.trans ((fp34.at (by decide)) : M33 64 4 = _).symm
  have q99 : v13 = M35 64 4 := q98.trans ((fp36.at (by decide)) : M35 64 4 = _).symm
  have q100 : v13 = M37 64 4 := q99.trans ((fp38.at (by decide)) : M37 64 4 = _).symm
  have q101 : v13 = M39 64 4 := q100.trans ((fp40.at (by decide)) : M39 64 4 = _).symm
  have q102 : v13 = M41 64 4 := q101.trans ((fp42.at (by decide)) : M41 64 4 = _).symm
  exact hret _ 180 _ ⟨hI, hW⟩ ⟨hF, (Eq.trans (Eq.symm q59) ev1), (cp_i (sC_eq (hI0.at (show Bd 2 1 = (0, 10) from rfl)).2 (hI0.at (show Bd 2 4 = (0, 6) from rfl)).2 (q75.symm.trans (ev4.trans (f2 2 1 (fun q => absurd q.1 (by decide))))) (q89.symm.trans (ev10.trans ((f8 2 3 (fun q => absurd q.1 (by decide))).trans ((f5 2 3 (fun q => absurd q.1 (by decide))).trans (f2 2 3 (fun q => absurd q.1 (by decide))))))) (q102.symm.trans (ev13.trans ((f11 2 4 (fun q => absurd q.1 (by decide))).trans ((f8 2 4 (fun q => absurd q.1 (by decide))).trans ((f5 2 4 (fun q => absurd q.1 (by decide))).trans (f2 2 4 (fun q => absurd q.1 (by decide)))))))) (fun j h => ((fp42.at (by decide) : M41 65 j = _).trans ((fp40.at (by decide) : M39 65 j = _).trans ((fp38.at (by decide) : M37 65 j = _).trans ((fp36.at (by decide) : M35 65 j = _).trans ((fp34.at (by decide) : M33 65 j = _).trans ((fp32.at (by decide) : M31 65 j = _).trans ((fp30.at (by decide) : M29 65 j = _).trans ((fp28.at (by decide) : M27 65 j = _).trans ((fp26.at (by decide) : M25 65 j = _).trans ((fp24.at (by decide) : M23 65 j = _).trans (fp22.at (by decide) : M21 65 j = _))))))))))).trans ((yp20 j h).trans ((f17 3 j (fun q => absurd q.1 (by decide))).trans ((f14 3 j (fun q => absurd q.1 (by decide))).trans ((f11 3 j (fun q => absurd q.1 (by decide))).trans ((f8 3 j (fun q => absurd q.1 (by decide))).trans ((f5 3 j (fun q => absurd q.1 (by decide))).trans (f2 3 j (fun q => absurd q.1 (by decide)))))))))) (fun j h => ((fp42.at (by decide) : M41 72 j = _).trans ((fp40.at (by decide) : M39 72 j = _).trans ((fp38.at (by decide) : M37 72 j = _).trans (fp36.at (by decide) : M35 72 j = _)))).trans ((yp34 j h).trans ((fp32.at (by decide) : M31 10 j = _).trans ((fp30.at (by decide) : M29 10 j = _).trans ((fp28.at (by decide) : M27 10 j = _).trans ((fp26.at (by decide) : M25 10 j = _).trans ((fp24.at (by decide) : M23 10 j = _).trans ((fp22.at (by decide) : M21 10 j = _).trans ((fp20.at (by decide) : M19 10 j = _).trans ((f17 10 j (fun q => absurd q.1 (by decide))).trans ((f14 10 j (fun q => absurd q.1 (by decide))).trans ((f11 10 j (fun q => absurd q.1 (by decide))).trans ((f8 10 j (fun q => absurd q.1 (by decide))).trans ((f5 10 j (fun q => absurd q.1 (by decide))).trans (f2 10 j (fun q => absurd q.1 (by decide))))))))))))))))) (fun j h => ((fp42.at (by decide) : M41 73 j = _).trans ((fp40.at (by decide) : M39 73 j = _).trans (fp38.at (by decide) : M37 73 j = _))).trans ((yp36 j h).trans ((fp34.at (by decide) : M33 11 j = _).trans ((fp32.at (by decide) : M31 11 j = _).trans ((fp30.at (by decide) : M29 11 j = _).trans ((fp28.at (by decide) : M27 11 j = _).trans ((fp26.at (by decide) : M25 11 j = _).trans ((fp24.at (by decide) : M23 11 j = _).trans ((fp22.at (by decide) : M21 11 j = _).trans ((fp20.at (by decide) : M19 11 j = _).trans ((f17 11 j (fun q => absurd q.1 (by decide))).trans ((f14 11 j (fun q => absurd q.1 (by decide))).trans ((f11 11 j (fun q => absurd q.1 (by decide))).trans ((f8 11 j (fun q => absurd q.1 (by decide))).trans ((f5 11 j (fun q => absurd q.1 (by decide))).trans (f2 11 j (fun q => absurd q.1 (by decide)))))))))))))))))) (fun j h => ((fp42.at (by decide) : M41 74 j = _).trans (fp40.at (by decide) : M39 74 j = _)).trans ((yp38 j h).trans ((fp36.at (by decide) : M35 12 j = _).trans ((fp34.at (by decide) : M33 12 j = _).trans ((fp32.at (by decide) : M31 12 j = _).trans ((fp30.at (by decide) : M29 12 j = _).trans ((fp28.at (by decide) : M27 12 j = _).trans ((fp26.at (by decide) : M25 12 j = _).trans ((fp24.at (by decide) : M23 12 j = _).trans ((fp22.at (by decide) : M21 12 j = _).trans ((fp20.at (by decide) : M19 12 j = _).trans ((f17 12 j (fun q => absurd q.1 (by decide))).trans ((f14 12 j (fun q => absurd q.1 (by decide))).trans ((f11 12 j (fun q => absurd q.1 (by decide))).trans ((f8 12 j (fun q => absurd q.1 (by decide))).trans ((f5 12 j (fun q => absurd q.1 (by decide))).trans (f2 12 j (fun q => absurd q.1 (by decide)))))))))))))))))))) (fun j h => ((fp42.at (by decide) : M41 67 j = _).trans ((fp40.at (by decide) : M39 67 j = _).trans ((fp38.at (by decide) : M37 67 j = _).trans ((fp36.at (by decide) : M35 67 j = _).trans ((fp34.at (by decide) : M33 67 j = _).trans ((fp32.at (by decide) : M31 67 j = _).trans ((fp30.at (by decide) : M29 67 j = _).trans ((fp28.at (by decide) : M27 67 j = _).trans (fp26.at (by decide) : M25 67 j = _))))))))).trans ((yp24 j h).trans ((fp22.at (by decide) : M21 5 j = _).trans ((fp20.at (by decide) : M19 5 j = _).trans ((f17 5 j (fun q => absurd q.1 (by decide))).trans ((f14 5 j (fun q => absurd q.1 (by decide))).trans ((f11 5 j (fun q => absurd q.1 (by decide))).trans ((f8 5 j (fun q => absurd q.1 (by decide))).trans ((f5 5 j (fun q => absurd q.1 (by decide))).trans (f2 5 j (fun q => absurd q.1 (by decide)))))))))))))⟩ dX9_copyFrom_180
set_option maxRecDepth 4000 in
theorem k_X7_save_35_80 (l : Launch) (M : Mem) (hJ : Iw M) (x1 : Int) (hx1a : (-2147483648) ≤ x1) (hx1b : x1 ≤ 2147483647) (hp0 : x1 % 34 = 0) : CV l yX7_save cX7_save 3 none 1 (fun ad => [.ref (ad 35), .ref (ad 80), ii x1]) M (fun M' => Fr [80] M M') := by
  obtain ⟨hI, hW⟩ := hJ
  have hF : Fr [80] M M := Fr.rf
  refine en_v (by decide +kernel) (fun ad => by exact Nat.le_of_ble_eq_true rfl) (fun D cy ad A p e s m args below meth c Q F hret => ?_)
  refine z_eq (ls' := [(0, .ref (ad 35)), (1, .ref (ad 80)), (2, ii x1)]) rfl rfl rfl ?_
  refine z_iload_n F dX7_save_0 rfl (q := 2) rfl ?_
  refine z_if_lt (tgt := 13) F dX7_save_1 (by decide +kernel) (by omega) (fun c1 => ?_) (fun c1 => ?_)
  · exact hret _ 13 _ ⟨hI, hW⟩ hF dX7_save_13
  · refine z_iload_n F dX7_save_4 rfl (q := 2) rfl ?_
    refine z_aload_n F dX7_save_5 rfl (q := 1) rfl ?_
    refine z_alen (x := 34) F gs_80 rfl rfl dX7_save_6 ?_
    refine z_bipush F dX7_save_7 (by decide +kernel) ?_
    refine z_isub F dX7_save_9 ?_
    refine z_icmp_le (tgt := 14) F dX7_save_10 (by decide +kernel) (by omega) (by omega) (fun c2 => ?_) (fun c2 => ?_)
    · refine z_aload_n F dX7_save_14 rfl (q := 0) rfl ?_
      refine rf_X7_9 F gs_35 rfl dX7_save_15 ?_
      refine z_iconst F dX7_save_18 ?_
      refine z_aload_n F dX7_save_19 rfl (q := 1) rfl ?_
      refine z_iload_n F dX7_save_20 rfl (q := 2) rfl ?_
      refine z_bipush F dX7_save_21 (by decide +kernel) ?_
      refine z_copy F (by decide) ac_X7_50 hI gs_36 gs_80 (by omega) (by omega) (by omega) (by omega) (by omega) (by decide) (by decide) (fun i hi => (show Bd 80 _ = (0, 9) from (bd_80.trans (sc_p (by omega)))).trans (show Bd 36 _ = (0, 9) from rfl).symm) (Nat.le_of_ble_eq_true rfl) dX7_save_23 (fun M4 hI g3 => ?_)
      have hF := hF.call g3 (by decide)
      have hW : WFk M4 := hW.fr g3 (by decide) (by decide)
      refine z_aload_n F dX7_save_26 rfl (q := 0) rfl ?_
      refine rf_X7_15 F gs_35 rfl dX7_save_27 ?_
      refine z_iconst F dX7_save_30 ?_
      refine z_aload_n F dX7_save_31 rfl (q := 1) rfl ?_
      refine z_iload_n F dX7_save_32 rfl (q := 2) rfl ?_
      refine z_bipush F dX7_save_33 (by decide +kernel) ?_
      refine z_iadd F dX7_save_35 ?_
      refine z_bipush F dX7_save_36 (by decide +kernel) ?_
      refine z_copy F (by decide) ac_X7_50 hI gs_37 gs_80 (by omega) (by omega) (by omega) (by omega) (by omega) (by decide) (by decide) (fun i hi => (show Bd 80 _ = (-2147483648, 2147483647) from (bd_80.trans (sc_n (by omega)))).trans (show Bd 37 _ = (-2147483648, 2147483647) from rfl).symm) (Nat.le_of_ble_eq_true rfl) dX7_save_38 (fun M6 hI g5 => ?_)
      have hF := hF.call g5 (by decide)
      have hW : WFk M6 := hW.fr g5 (by decide) (by decide)
      refine z_aload_n F dX7_save_41 rfl (q := 0) rfl ?_
      refine rf_X7_18 F gs_35 rfl dX7_save_42 ?_
      refine z_iconst F dX7_save_45 ?_
      refine z_aload_n F dX7_save_46 rfl (q := 1) rfl ?_
      refine z_iload_n F dX7_save_47 rfl (q := 2) rfl ?_
      refine z_bipush F dX7_save_48 (by decide +kernel) ?_
      refine z_iadd F dX7_save_50 ?_
      refine z_bipush F dX7_save_51 (by decide +kernel) ?_
      refine z_copy F (by decide) ac_X7_50 hI gs_38 gs_80 (by omega) (by omega) (by omega) (by omega) (by omega) (by decide) (by decide) (fun i hi => (show Bd 80 _ = (-2147483648, 2147483647) from (bd_80.trans (sc_n (by omega)))).trans (show Bd 38 _ = (-2147483648, 2147483647) from rfl).symm) (Nat.le_of_ble_eq_true rfl) dX7_save_53 (fun M8 hI g7 => ?_)
      have hF := hF.call g7 (by decide)
      have hW : WFk M8 := hW.fr g7 (by decide) (by decide)
      refine z_aload_n F dX7_save_56 rfl (q := 0) rfl ?_
      refine rf_X7_21 F gs_35 rfl dX7_save_57 ?_
      refine z_iconst F dX7_save_60 ?_
      refine z_aload_n F dX7_save_61 rfl (q := 1) rfl ?_
      refine z_iload_n F dX7_save_62 rfl (q := 2) rfl ?_
      refine z_bipush F dX7_save_63 (by decide +kernel) ?_
      refine z_iadd F dX7_save_65 ?_
      refine z_bipush F dX7_save_66 (by decide +kernel) ?_
      refine z_copy F (by decide) ac_X7_50 hI gs_39 gs_80 (by omega) (by omega) (by omega) (by omega) (by omega) (by decide) (by decide) (fun i hi => (show Bd 80 _ = (-2147483648, 2147483647) from (bd_80.trans (sc_n (by omega)))).trans (show Bd 39 _ = (-2147483648, 2147483647) from rfl).symm) (Nat.le_of_ble_eq_true rfl) dX7_save_68 (fun M10 hI g9 => ?_)
      have hF := hF.call g9 (by decide)
      have hW : WFk M10 := hW.fr g9 (by decide) (by decide)
      refine z_aload_n F dX7_save_71 rfl (q := 1) rfl ?_
      refine z_iload_n F dX7_save_72 rfl (q := 2) rfl ?_
      refine z_bipush F dX7_save_73 (by decide +kernel) ?_
      refine z_iadd F dX7_save_75 ?_
      refine z_iconst F dX7_save_76 ?_
      refine z_isub F dX7_save_77 ?_
      refine z_aload_n F dX7_save_78 rfl (q := 0) rfl ?_
      refine gf_X7_44 F hI gs_35 rfl bd_35_5 dX7_save_79 (fun v11 ev11 av11 bv11 => ?_)
      refine z_iast F hI gs_80 (by omega) (by omega) (by decide) (bd_80.trans (sc_n (by omega))) dX7_save_82 (by omega) (by omega) (fun M13 hI sf12 f12 => ?_)
      have hF := hF.wr f12 (by decide) (by decide)
      have hW : WFk M13 := hW.site f12 (by decide)
      refine z_aload_n F dX7_save_83 rfl (q := 1) rfl ?_
      refine z_iload_n F dX7_save_84 rfl (q := 2) rfl ?_
      refine z_bipush F dX7_save_85 (by decide +kernel) ?_
      refine z_iadd F dX7_save_87 ?_
      refine z_iconst F dX7_save_88 ?_
      refine z_isub F dX7_save_89 ?_
      refine z_aload_n F dX7_save_90 rfl (q := 0) rfl ?_
      refine gf_X7_47 F hI gs_35 rfl bd_35_6 dX7_save_91 (fun v14 ev14 av14 bv14 => ?_)
      refine z_iast F hI gs_80 (by omega) (by omega) (by decide) (bd_80.trans (sc_n (by omega))) dX7_save_94 (by omega) (by omega) (fun M16 hI sf15 f15 => ?_)
      have hF := hF.wr f15 (by decide) (by decide)
      have hW : WFk M16 := hW.site f15 (by decide)
      exact hret _ 95 _ ⟨hI, hW⟩ hF dX7_save_95
    · exact hret _ 13 _ ⟨hI, hW⟩ hF dX7_save_13
set_option maxRecDepth 4000 in
theorem k_X4_copyFrom_81_40 (l : Launch) (M : Mem) (hJ : Iw M) : CV l yX4_copyFrom cX4_copyFrom 2 none 1 (fun ad => [.ref (ad 81), .ref (ad 40)]) M (fun M' => Fr [81, 82] M M') := by
  obtain ⟨hI, hW⟩ := hJ
  have hF : Fr [81, 82] M M := Fr.rf
  refine en_v (by decide +kernel) (fun ad => by exact Nat.le_of_ble_eq_true rfl) (fun D cy ad A p e s m args below meth c Q F hret => ?_)
  refine z_eq (ls' := [(0, .ref (ad 81)), (1, .ref (ad 40))]) rfl rfl rfl ?_
  refine z_aload_n F dX4_copyFrom_0 rfl (q := 0) rfl ?_
  refine z_aload_n F dX4_copyFrom_1 rfl (q := 1) rfl ?_
  refine gf_X4_17 F hI gs_40 rfl bd_40_0 dX4_copyFrom_2 (fun v1 ev1 av1 bv1 => ?_)
  refine pf_X4_17 F hI gs_81 rfl bd_81_0 rfl rfl dX4_copyFrom_5 (by omega) (by omega) (fun M3 hI sf2 f2 => ?_)
  have hF := hF.wr f2 (by decide) (by decide)
  have hW : WFk M3 := hW.site f2 (by decide)
  refine z_aload_n F dX4_copyFrom_8 rfl (q := 0) rfl ?_
  refine z_aload_n F dX4_copyFrom_9 rfl (q := 1) rfl ?_
  refine gf_X4_21 F hI gs_40 rfl bd_40_1 dX4_copyFrom_10 (fun v4 ev4 av4 bv4 => ?_)
  refine pf_X4_21 F hI gs_81 rfl bd_81_1 rfl rfl dX4_copyFrom_13 (by omega) (by omega) (fun M6 hI sf5 f5 => ?_)
  have hF := hF.wr f5 (by decide) (by decide)
  have hW : WFk M6 := hW.site f5 (by decide)
  refine z_aload_n F dX4_copyFrom_16 rfl (q := 1) rfl ?_
  refine rf_X4_11 F gs_40 rfl dX4_copyFrom_17 ?_
  refine z_iconst F dX4_copyFrom_20 ?_
  refine z_aload_n F dX4_copyFrom_21 rfl (q := 0) rfl ?_
  refine rf_X4_11 F gs_81 rfl dX4_copyFrom_22 ?_
  refine z_iconst F dX4_copyFrom_25 ?_
  refine z_aload_n F dX4_copyFrom_26 rfl (q := 0) rfl ?_
  refine rf_X4_11 F gs_81 rfl dX4_copyFrom_27 ?_
  refine z_alen (x := 408) F gs_82 rfl rfl dX4_copyFrom_30 ?_
  refine z_copy F (by decide) ac_X4_40 hI gs_41 gs_82 (by omega) (by omega) (by omega) (by omega) (by omega) (by decide) (by decide) (fun i hi => rfl) (Nat.le_of_ble_eq_true rfl) dX4_copyFrom_31 (fun M8 hI g7 => ?_)
  have hF := hF.call g7 (by decide)
  have hW : WFk M8 := hW.fr g7 (by decide) (by decide)
  exact hret _ 34 _ ⟨hI, hW⟩ hF dX4_copyFrom_34
set_option maxRecDepth 4000 in
theorem k_X1_take_63_2_35_40 (l : Launch) (M : Mem) (hJ : Iw M) : CV l yX1_take cX1_take 4 none 3 (fun ad => [.ref (ad 63), .ref (ad 2), .ref (ad 35), .ref (ad 40)]) M (fun M' => Fr [63, 64, 65, 66, 67, 68, 69, 70, 71, 72, 73, 74, 75, 76, 77, 80, 81, 82] M M' ∧ (M' 63 0 = 1) ∧ (Cp 2 64 M M')) := by
  obtain ⟨hI, hW⟩ := hJ
  have hF : Fr [63, 64, 65, 66, 67, 68, 69, 70, 71, 72, 73, 74, 75, 76, 77, 80, 81, 82] M M := Fr.rf
  refine en_v (by decide +kernel) (fun ad => by exact Nat.le_of_ble_eq_true rfl) (fun D cy ad A p e s m args below meth c Q F hret => ?_)
  refine z_eq (ls' := [(0, .ref (ad 63)), (1, .ref (ad 2)), (2, .ref (ad 35)), (3, .ref (ad 40))]) rfl rfl rfl ?_
  refine z_aload_n F dX1_take_0 rfl (q := 0) rfl ?_
  refine z_iconst F dX1_take_1 ?_
  refine pf_X1_29 F hI gs_63 rfl bd_63_0 (nar_z (by omega) (by omega)) (fit_z (by omega) (by omega)) dX1_take_2 (by omega) (by omega) (fun M2 hI sf1 f1 => ?_)
  have hF := hF.wr f1 (by decide) (by decide)
  have hW : WFk M2 := hW.site f1 (by decide)
  refine z_aload_n F dX1_take_5 rfl (q := 0) rfl ?_
  refine rf_X1_10 F gs_63 rfl dX1_take_6 ?_
  refine z_aload_n F dX1_take_9 rfl (q := 1) rfl ?_
  refine zv_v (rest := []) F (k_X9_copyFrom_64_2 l M2 ⟨hI, hW⟩) cs_X1_33 (T := TX9) (N := 18) (ci := 9) rfl gs_64 (by decide) (by decide) rfl rfl rfl (Nat.le_of_ble_eq_true rfl) dX1_take_10 (fun M3 hI p4 => ?_)
  obtain ⟨hI, hW⟩ := hI
  obtain ⟨fp4, xp4, yp4⟩ := p4
  have hF := hF.call fp4 (by decide)
  refine z_aload_n F dX1_take_13 rfl (q := 2) rfl ?_
  refine z_aload_n F dX1_take_14 rfl (q := 0) rfl ?_
  refine rf_X1_18 F gs_63 rfl dX1_take_15 ?_
  refine z_iconst F dX1_take_18 ?_
  refine zv_v (rest := []) F (k_X7_save_35_80 l M3 ⟨hI, hW⟩ 0 (by omega) (by omega) (by omega)) cs_X1_37 (T := TX7) (N := 7) (ci := 7) rfl gs_35 (by decide) (by decide) rfl rfl rfl (Nat.le_of_ble_eq_true rfl) dX1_take_19 (fun M5 hI p6 => ?_)
  obtain ⟨hI, hW⟩ := hI
  have fp6 := p6
  have hF := hF.call fp6 (by decide)
  refine z_aload_n F dX1_take_22 rfl (q := 0) rfl ?_
  refine rf_X1_25 F gs_63 rfl dX1_take_23 ?_
  refine z_aload_n F dX1_take_26 rfl (q := 3) rfl ?_
  refine zv_v (rest := []) F (k_X4_copyFrom_81_40 l M5 ⟨hI, hW⟩) cs_X1_41 (T := TX4) (N := 3) (ci := 4) rfl gs_81 (by decide) (by decide) rfl rfl rfl (Nat.le_of_ble_eq_true rfl) dX1_take_27 (fun M7 hI p8 => ?_)
  obtain ⟨hI, hW⟩ := hI
  have fp8 := p8
  have hF := hF.call fp8 (by decide)
  have q9 : 1 = M3 63 0 := sf1.symm.trans ((fp4.at (by decide)) : M3 63 0 = _).symm
  have q10 : 1 = M5 63 0 := q9.trans ((fp6.at (by decide)) : M5 63 0 = _).symm
  have q11 : 1 = M7 63 0 := q10.trans ((fp8.at (by decide)) : M7 63 0 = _).symm
  exact hret _ 30 _ ⟨hI, hW⟩ ⟨hF, (by omega), (cp_tr (cp_ws f1 (by decide) (by decide) (by decide) (by decide) (by decide) (by decide) : Cp 2 2 M M2) (cp_tr yp4 (cp_tr (cp_fr fp6 (by decide) (by decide) : Cp 64 64 M3 M5) (cp_fr fp8 (by decide) (by decide) : Cp 64 64 M5 M7))))⟩ dX1_take_30
set_option maxRecDepth 4000 in
theorem k_X9_copy_3_85 (l : Launch) (M : Mem) (hJ : Iw M) : CV l yX9_copy cX9_copy 2 none 1 (fun ad => [.ref (ad 3), .ref (ad 85)]) M (fun M' => Fr [85] M M' ∧ (∀ j : Nat, j < 10 → M' 85 j = M 3 j)) := by
  obtain ⟨hI, hW⟩ := hJ
  have hF : Fr [85] M M := Fr.rf
  refine en_v (by decide +kernel) (fun ad => by exact Nat.le_of_ble_eq_true rfl) (fun D cy ad A p e s m args below meth c Q F hret => ?_)
  refine z_eq (ls' := [(0, .ref (ad 3)), (1, .ref (ad 85))]) rfl rfl rfl ?_
  refine z_aload_n F dX9_copy_0 rfl (q := 0) rfl ?_
  refine z_iconst F dX9_copy_1 ?_
  refine z_aload_n F dX9_copy_2 rfl (q := 1) rfl ?_
  refine z_iconst F dX9_copy_3 ?_
  refine z_aload_n F dX9_copy_4 rfl (q := 0) rfl ?_
  refine z_alen (x := 10) F gs_3 rfl rfl dX9_copy_5 ?_
  refine z_aload_n F dX9_copy_6 rfl (q := 1) rfl ?_
  refine z_alen (x := 10) F gs_85 rfl rfl dX9_copy_7 ?_
  refine z_min F mm_X9_85 (Nat.le_of_ble_eq_true rfl) dX9_copy_8 (by omega) (by omega) (fun v1 ev1 => ?_)
  refine z_copyE F (by decide) ac_X9_91 hI gs_3 gs_85 (by omega) (by omega) (by omega) (by omega) (by omega) (by decide) (by decide) (fun i hi => rfl) (Nat.le_of_ble_eq_true rfl) dX9_copy_11 (fun M3 hI g2 kg2 => ?_)
  have hF := hF.call g2 (by decide)
  have hW : WFk M3 := hW.fr g2 (by decide) (by decide)
  exact hret _ 14 _ ⟨hI, hW⟩ ⟨hF, (cp_at (f := M3 85) (g := M 3) (h := M 85) 10 kg2 (by omega))⟩ dX9_copy_14
set_option maxRecDepth 4000 in
theorem k_X9_copy_4_86 (l : Launch) (M : Mem) (hJ : Iw M) : CV l yX9_copy cX9_copy 2 none 1 (fun ad => [.ref (ad 4), .ref (ad 86)]) M (fun M' => Fr [86] M M' ∧ (∀ j : Nat, j < 10 → M' 86 j = M 4 j)) := by
  obtain ⟨hI, hW⟩ := hJ
  have hF : Fr [86] M M := Fr.rf
  refine en_v (by decide +kernel) (fun ad => by exact Nat.le_of_ble_eq_true rfl) (fun D cy ad A p e s m args below meth c Q F hret => ?_)
  refine z_eq (ls' := [(0, .ref (ad 4)), (1, .ref (ad 86))]) rfl rfl rfl ?_
  refine z_aload_n F dX9_copy_0 rfl (q := 0) rfl ?_
  refine z_iconst F dX9_copy_1 ?_
  refine z_aload_n F dX9_copy_2 rfl (q := 1) rfl ?_
  refine z_iconst F dX9_copy_3 ?_
  refine z_aload_n F dX9_copy_4 rfl (q := 0) rfl ?_
  refine z_alen (x := 10) F gs_4 rfl rfl dX9_copy_5 ?_
  refine z_aload_n F dX9_copy_6 rfl (q := 1) rfl ?_
  refine z_alen (x := 10) F gs_86 rfl rfl dX9_copy_7 ?_
  refine z_min F mm_X9_85 (Nat.le_of_ble_eq_true rfl) dX9_copy_8 (by omega) (by omega) (fun v1 ev1 => ?_)
  refine z_copyE F (by decide) ac_X9_91 hI gs_4 gs_86 (by omega) (by omega) (by omega) (by omega) (by omega) (by decide) (by decide) (fun i hi => rfl) (Nat.le_of_ble_eq_true rfl) dX9_copy_11 (fun M3 hI g2 kg2 => ?_)
  have hF := hF.call g2 (by decide)
  have hW : WFk M3 := hW.fr g2 (by decide) (by decide)
  exact hret _ 14 _ ⟨hI, hW⟩ ⟨hF, (cp_at (f := M3 86) (g := M 4) (h := M 86) 10 kg2 (by omega))⟩ dX9_copy_14
set_option maxRecDepth 4000 in
theorem k_X9_copy_5_87 (l : Launch) (M : Mem) (hJ : Iw M) : CV l yX9_copy cX9_copy 2 none 1 (fun ad => [.ref (ad 5), .ref (ad 87)]) M (fun M' => Fr [87] M M' ∧ (∀ j : Nat, j < 100 → M' 87 j = M 5 j)) := by
  obtain ⟨hI, hW⟩ := hJ
  have hF : Fr [87] M M := Fr.rf
  refine en_v (by decide +kernel) (fun ad => by exact Nat.le_of_ble_eq_true rfl) (fun D cy ad A p e s m args below meth c Q F hret => ?_)
  refine z_eq (ls' := [(0, .ref (ad 5)), (1, .ref (ad 87))]) rfl rfl rfl ?_
  refine z_aload_n F dX9_copy_0 rfl (q := 0) rfl ?_
  refine z_iconst F dX9_copy_1 ?_
  refine z_aload_n F dX9_copy_2 rfl (q := 1) rfl ?_
  refine z_iconst F dX9_copy_3 ?_
  refine z_aload_n F dX9_copy_4 rfl (q := 0) rfl ?_
  refine z_alen (x := 100) F gs_5 rfl rfl dX9_copy_5 ?_
  refine z_aload_n F dX9_copy_6 rfl (q := 1) rfl ?_
  refine z_alen (x := 100) F gs_87 rfl rfl dX9_copy_7 ?_
  refine z_min F mm_X9_85 (Nat.le_of_ble_eq_true rfl) dX9_copy_8 (by omega) (by omega) (fun v1 ev1 => ?_)
  refine z_copyE F (by decide) ac_X9_91 hI gs_5 gs_87 (by omega) (by omega) (by omega) (by omega) (by omega) (by decide) (by decide) (fun i hi => rfl) (Nat.le_of_ble_eq_true rfl) dX9_copy_11 (fun M3 hI g2 kg2 => ?_)
  have hF := hF.call g2 (by decide)
  have hW : WFk M3 := hW.fr g2 (by decide) (by decide)
  exact hret _ 14 _ ⟨hI, hW⟩ ⟨hF, (cp_at (f := M3 87) (g := M 5) (h := M 87) 100 kg2 (by omega))⟩ dX9_copy_14
set_option maxRecDepth 4000 in
theorem k_X9_copy_6_88 (l : Launch) (M : Mem) (hJ : Iw M) : CV l yX9_copy cX9_copy 2 none 1 (fun ad => [.ref (ad 6), .ref (ad 88)]) M (fun M' => Fr [88] M M' ∧ (∀ j : Nat, j < 8 → M' 88 j = M 6 j)) := by
  obtain ⟨hI, hW⟩ := hJ
  have hF : Fr [88] M M := Fr.rf
  refine en_v (by decide +kernel) (fun ad => by exact Nat.le_of_ble_eq_true rfl) (fun D cy ad A p e s m args below meth c Q F hret => ?_)
  refine z_eq (ls' := [(0, .ref (ad 6)), (1, .ref (ad 88))]) rfl rfl rfl ?_
  refine z_aload_n F dX9_copy_0 rfl (q := 0) rfl ?_
  refine z_iconst F dX9_copy_1 ?_
  refine z_aload_n F dX9_copy_2 rfl (q := 1) rfl ?_
  refine z_iconst F dX9_copy_3 ?_
  refine z_aload_n F dX9_copy_4 rfl (q := 0) rfl ?_
  refine z_alen (x := 8) F gs_6 rfl rfl dX9_copy_5 ?_
  refine z_aload_n F dX9_copy_6 rfl (q := 1) rfl ?_
  refine z_alen (x := 8) F gs_88 rfl rfl dX9_copy_7 ?_
  refine z_min F mm_X9_85 (Nat.le_of_ble_eq_true rfl) dX9_copy_8 (by omega) (by omega) (fun v1 ev1 => ?_)
  refine z_copyE F (by decide) ac_X9_91 hI gs_6 gs_88 (by omega) (by omega) (by omega) (by omega) (by omega) (by decide) (by decide) (fun i hi => rfl) (Nat.le_of_ble_eq_true rfl) dX9_copy_11 (fun M3 hI g2 kg2 => ?_)
  have hF := hF.call g2 (by decide)
  have hW : WFk M3 := hW.fr g2 (by decide) (by decide)
  exact hret _ 14 _ ⟨hI, hW⟩ ⟨hF, (cp_at (f := M3 88) (g := M 6) (h := M 88) 8 kg2 (by omega))⟩ dX9_copy_14
set_option maxRecDepth 4000 in
theorem k_X9_copy_7_89 (l : Launch) (M : Mem) (hJ : Iw M) : CV l yX9_copy cX9_copy 2 none 1 (fun ad => [.ref (ad 7), .ref (ad 89)]) M (fun M' => Fr [89] M M' ∧ (∀ j : Nat, j < 8 → M' 89 j = M 7 j)) := by
  obtain ⟨hI, hW⟩ := hJ
  have hF : Fr [89] M M := Fr.rf
  refine en_v (by decide +kernel) (fun ad => by exact Nat.le_of_ble_eq_true rfl) (fun D cy ad A p e s m args below meth c Q F hret => ?_)
  refine z_eq (ls' := [(0, .ref (ad 7)), (1, .ref (ad 89))]) rfl rfl rfl ?_
  refine z_aload_n F dX9_copy_0 rfl (q := 0) rfl ?_
  refine z_iconst F dX9_copy_1 ?_
  refine z_aload_n F dX9_copy_2 rfl (q := 1) rfl ?_
  refine z_iconst F dX9_copy_3 ?_
  refine z_aload_n F dX9_copy_4 rfl (q := 0) rfl ?_
  refine z_alen (x := 8) F gs_7 rfl rfl dX9_copy_5 ?_
  refine z_aload_n F dX9_copy_6 rfl (q := 1) rfl ?_
  refine z_alen (x := 8) F gs_89 rfl rfl dX9_copy_7 ?_
  refine z_min F mm_X9_85 (Nat.le_of_ble_eq_true rfl) dX9_copy_8 (by omega) (by omega) (fun v1 ev1 => ?_)
  refine z_copyE F (by decide) ac_X9_91 hI gs_7 gs_89 (by omega) (by omega) (by omega) (by omega) (by omega) (by decide) (by decide) (fun i hi => rfl) (Nat.le_of_ble_eq_true rfl) dX9_copy_11 (fun M3 hI g2 kg2 => ?_)
  have hF := hF.call g2 (by decide)
  have hW : WFk M3 := hW.fr g2 (by decide) (by decide)
  exact hret _ 14 _ ⟨hI, hW⟩ ⟨hF, (cp_at (f := M3 89) (g := M 7) (h := M 89) 8 kg2 (by omega))⟩ dX9_copy_14
set_option maxRecDepth 4000 in
theorem k_X9_copy_8_90 (l : Launch) (M : Mem) (hJ : Iw M) : CV l yX9_copy cX9_copy 2 none 1 (fun ad => [.ref (ad 8), .ref (ad 90)]) M (fun M' => Fr [90] M M' ∧ (∀ j : Nat, j < 8 → M' 90 j = M 8 j)) := by
  obtain ⟨hI, hW⟩ := hJ
  have hF : Fr [90] M M := Fr.rf
  refine en_v (by decide +kernel) (fun ad => by exact Nat.le_of_ble_eq_true rfl) (fun D cy ad A p e s m args below meth c Q F hret => ?_)
  refine z_eq (ls' := [(0, .ref (ad 8)), (1, .ref (ad 90))]) rfl rfl rfl ?_
  refine z_aload_n F dX9_copy_0 rfl (q := 0) rfl ?_
  refine z_iconst F dX9_copy_1 ?_
  refine z_aload_n F dX9_copy_2 rfl (q := 1) rfl ?_
  refine z_iconst F dX9_copy_3 ?_
  refine z_aload_n F dX9_copy_4 rfl (q := 0) rfl ?_
  refine z_alen (x := 8) F gs_8 rfl rfl dX9_copy_5 ?_
  refine z_aload_n F dX9_copy_6 rfl (q := 1) rfl ?_
  refine z_alen (x := 8) F gs_90 rfl rfl dX9_copy_7 ?_
  refine z_min F mm_X9_85 (Nat.le_of_ble_eq_true rfl) dX9_copy_8 (by omega) (by omega) (fun v1 ev1 => ?_)
  refine z_copyE F (by decide) ac_X9_91 hI gs_8 gs_90 (by omega) (by omega) (by omega) (by omega) (by omega) (by decide) (by decide) (fun i hi => rfl) (Nat.le_of_ble_eq_true rfl) dX9_copy_11 (fun M3 hI g2 kg2 => ?_)
  have hF := hF.call g2 (by decide)
  have hW : WFk M3 := hW.fr g2 (by decide) (by decide)
  exact hret _ 14 _ ⟨hI, hW⟩ ⟨hF, (cp_at (f := M3 90) (g := M 8) (h := M 90) 8 kg2 (by omega))⟩ dX9_copy_14
set_option maxRecDepth 4000 in
theorem k_X9_copy_9_91 (l : Launch) (M : Mem) (hJ : Iw M) : CV l yX9_copy cX9_copy 2 none 1 (fun ad => [.ref (ad 9), .ref (ad 91)]) M (fun M' => Fr [91] M M' ∧ (∀ j : Nat, j < 8 → M' 91 j = M 9 j)) := by
  obtain ⟨hI, hW⟩ := hJ
  have hF : Fr [91] M M := Fr.rf
  refine en_v (by decide +kernel) (fun ad => by exact Nat.le_of_ble_eq_true rfl) (fun D cy ad A p e s m args below meth c Q F hret => ?_)
  refine z_eq (ls' := [(0, .ref (ad 9)), (1, .ref (ad 91))]) rfl rfl rfl ?_
  refine z_aload_n F dX9_copy_0 rfl (q := 0) rfl ?_
  refine z_iconst F dX9_copy_1 ?_
  refine z_aload_n F dX9_copy_2 rfl (q := 1) rfl ?_
  refine z_iconst F dX9_copy_3 ?_
  refine z_aload_n F dX9_copy_4 rfl (q := 0) rfl ?_
  refine z_alen (x := 8) F gs_9 rfl rfl dX9_copy_5 ?_
  refine z_aload_n F dX9_copy_6 rfl (q := 1) rfl ?_
  refine z_alen (x := 8) F gs_91 rfl rfl dX9_copy_7 ?_
  refine z_min F mm_X9_85 (Nat.le_of_ble_eq_true rfl) dX9_copy_8 (by omega) (by omega) (fun v1 ev1 => ?_)
  refine z_copyE F (by decide) ac_X9_91 hI gs_9 gs_91 (by omega) (by omega) (by omega) (by omega) (by omega) (by decide) (by decide) (fun i hi => rfl) (Nat.le_of_ble_eq_true rfl) dX9_copy_11 (fun M3 hI g2 kg2 => ?_)
  have hF := hF.call g2 (by decide)
  have hW : WFk M3 := hW.fr g2 (by decide) (by decide)
  exact hret _ 14 _ ⟨hI, hW⟩ ⟨hF, (cp_at (f := M3 91) (g := M 9) (h := M 91) 8 kg2 (by omega))⟩ dX9_copy_14
set_option maxRecDepth 4000 in
theorem k_X9_copy_10_92 (l : Launch) (M : Mem) (hJ : Iw M) : CV l yX9_copy cX9_copy 2 none 1 (fun ad => [.ref (ad 10), .ref (ad 92)]) M (fun M' => Fr [92] M M' ∧ (∀ j : Nat, j < 6 → M' 92 j = M 10 j)) := by
  obtain ⟨hI, hW⟩ := hJ
  have hF : Fr [92] M M := Fr.rf
  refine en_v (by decide +kernel) (fun ad => by exact Nat.le_of_ble_eq_true rfl) (fun D cy ad A p e s m args below meth c Q F hret => ?_)
  refine z_eq (ls' := [(0, .ref (ad 10)), (1, .ref (ad 92))]) rfl rfl rfl ?_
  refine z_aload_n F dX9_copy_0 rfl (q := 0) rfl ?_
  refine z_iconst F dX9_copy_1 ?_
  refine z_aload_n F dX9_copy_2 rfl (q := 1) rfl ?_
  refine z_iconst F dX9_copy_3 ?_
  refine z_aload_n F dX9_copy_4 rfl (q := 0) rfl ?_
  refine z_alen (x := 6) F gs_10 rfl rfl dX9_copy_5 ?_
  refine z_aload_n F dX9_copy_6 rfl (q := 1) rfl ?_
  refine z_alen (x := 6) F gs_92 rfl rfl dX9_copy_7 ?_
  refine z_min F mm_X9_85 (Nat.le_of_ble_eq_true rfl) dX9_copy_8 (by omega) (by omega) (fun v1 ev1 => ?_)
  refine z_copyE F (by decide) ac_X9_91 hI gs_10 gs_92 (by omega) (by omega) (by omega) (by omega) (by omega) (by decide) (by decide) (fun i hi => rfl) (Nat.le_of_ble_eq_true rfl) dX9_copy_11 (fun M3 hI g2 kg2 => ?_)
  have hF := hF.call g2 (by decide)
  have hW : WFk M3 := hW.fr g2 (by decide) (by decide)
  exact hret _ 14 _ ⟨hI, hW⟩ ⟨hF, (cp_at (f := M3 92) (g := M 10) (h := M 92) 6 kg2 (by omega))⟩ dX9_copy_14
set_option maxRecDepth 4000 in
theorem k_X9_copy_11_93 (l : Launch) (M : Mem) (hJ : Iw M) : CV l yX9_copy cX9_copy 2 none 1 (fun ad => [.ref (ad 11), .ref (ad 93)]) M (fun M' => Fr [93] M M' ∧ (∀ j : Nat, j < 6 → M' 93 j = M 11 j)) := by
  obtain ⟨hI, hW⟩ := hJ
  have hF : Fr [93] M M := Fr.rf
  refine en_v (by decide +kernel) (fun ad => by exact Nat.le_of_ble_eq_true rfl) (fun D cy ad A p e s m args below meth c Q F hret => ?_)
  refine z_eq (ls' := [(0, .ref (ad 11)), (1, .ref (ad 93))]) rfl rfl rfl ?_
  refine z_aload_n F dX9_copy_0 rfl (q := 0) rfl ?_
  refine z_iconst F dX9_copy_1 ?_
  refine z_aload_n F dX9_copy_2 rfl (q := 1) rfl ?_
  refine z_iconst F dX9_copy_3 ?_
  refine z_aload_n F dX9_copy_4 rfl (q := 0) rfl ?_
  refine z_alen (x := 6) F gs_11 rfl rfl dX9_copy_5 ?_
  refine z_aload_n F dX9_copy_6 rfl (q := 1) rfl ?_
  refine z_alen (x := 6) F gs_93 rfl rfl dX9_copy_7 ?_
  refine z_min F mm_X9_85 (Nat.le_of_ble_eq_true rfl) dX9_copy_8 (by omega) (by omega) (fun v1 ev1 => ?_)
  refine z_copyE F (by decide) ac_X9_91 hI gs_11 gs_93 (by omega) (by omega) (by omega) (by omega) (by omega) (by decide) (by decide) (fun i hi => rfl) (Nat.le_of_ble_eq_true rfl) dX9_copy_11 (fun M3 hI g2 kg2 => ?_)
  have hF := hF.call g2 (by decide)
  have hW : WFk M3 := hW.fr g2 (by decide) (by decide)
  exact hret _ 14 _ ⟨hI, hW⟩ ⟨hF, (cp_at (f := M3 93) (g := M 11) (h := M 93) 6 kg2 (by omega))⟩ dX9_copy_14
set_option maxRecDepth 4000 in
theorem k_X9_copy_12_94 (l : Launch) (M : Mem) (hJ : Iw M) : CV l yX9_copy cX9_copy 2 none 1 (fun ad => [.ref (ad 12), .ref (ad 94)]) M (fun M' => Fr [94] M M' ∧ (∀ j : Nat, j < 6 → M' 94 j = M 12 j)) := by
  obtain ⟨hI, hW⟩ := hJ
  have hF : Fr [94] M M := Fr.rf
  refine en_v (by decide +kernel) (fun ad => by exact Nat.le_of_ble_eq_true rfl) (fun D cy ad A p e s m args below meth c Q F hret => ?_)
  refine z_eq (ls' := [(0, .ref (ad 12)), (1, .ref (ad 94))]) rfl rfl rfl ?_
  refine z_aload_n F dX9_copy_0 rfl (q := 0) rfl ?_
  refine z_iconst F dX9_copy_1 ?_
  refine z_aload_n F dX9_copy_2 rfl (q := 1) rfl ?_
  refine z_iconst F dX9_copy_3 ?_
  refine z_aload_n F dX9_copy_4 rfl (q := 0) rfl ?_
  refine z_alen (x := 6) F gs_12 rfl rfl dX9_copy_5 ?_
  refine z_aload_n F dX9_copy_6 rfl (q := 1) rfl ?_
  refine z_alen (x := 6) F gs_94 rfl rfl dX9_copy_7 ?_
  refine z_min F mm_X9_85 (Nat.le_of_ble_eq_true rfl) dX9_copy_8 (by omega) (by omega) (fun v1 ev1 => ?_)
  refine z_copyE F (by decide) ac_X9_91 hI gs_12 gs_94 (by omega) (by omega) (by omega) (by omega) (by omega) (by decide) (by decide) (fun i hi => rfl) (Nat.le_of_ble_eq_true rfl) dX9_copy_11 (fun M3 hI g2 kg2 => ?_)
  have hF := hF.call g2 (by decide)
  have hW : WFk M3 := hW.fr g2 (by decide) (by decide)
  exact hret _ 14 _ ⟨hI, hW⟩ ⟨hF, (cp_at (f := M3 94) (g := M 12) (h := M 94) 6 kg2 (by omega))⟩ dX9_copy_14
set_option maxRecDepth 4000 in
theorem k_X9_copy_13_95 (l : Launch) (M : Mem) (hJ : Iw M) : CV l yX9_copy cX9_copy 2 none 1 (fun ad => [.ref (ad 13), .ref (ad 95)]) M (fun M' => Fr [95] M M' ∧ (∀ j : Nat, j < 6 → M' 95 j = M 13 j)) := by
  obtain ⟨hI, hW⟩ := hJ
  have hF : Fr [95] M M := Fr.rf
  refine en_v (by decide +kernel) (fun ad => by exact Nat.le_of_ble_eq_true rfl) (fun D cy ad A p e s m args below meth c Q F hret => ?_)
  refine z_eq (ls' := [(0, .ref (ad 13)), (1, .ref (ad 95))]) rfl rfl rfl ?_
  refine z_aload_n F dX9_copy_0 rfl (q := 0) rfl ?_
  refine z_iconst F dX9_copy_1 ?_
  refine z_aload_n F dX9_copy_2 rfl (q := 1) rfl ?_
  refine z_iconst F dX9_copy_3 ?_
  refine z_aload_n F dX9_copy_4 rfl (q := 0) rfl ?_
  refine z_alen (x := 6) F gs_13 rfl rfl dX9_copy_5 ?_
  refine z_aload_n F dX9_copy_6 rfl (q := 1) rfl ?_
  refine z_alen (x := 6) F gs_95 rfl rfl dX9_copy_7 ?_
  refine z_min F mm_X9_85 (Nat.le_of_ble_eq_true rfl) dX9_copy_8 (by omega) (by omega) (fun v1 ev1 => ?_)
  refine z_copyE F (by decide) ac_X9_91 hI gs_13 gs_95 (by omega) (by omega) (by omega) (by omega) (by omega) (by decide) (by decide) (fun i hi => rfl) (Nat.le_of_ble_eq_true rfl) dX9_copy_11 (fun M3 hI g2 kg2 => ?_)
  have hF := hF.call g2 (by decide)
  have hW : WFk M3 := hW.fr g2 (by decide) (by decide)
  exact hret _ 14 _ ⟨hI, hW⟩ ⟨hF, (cp_at (f := M3 95) (g := M 13) (h := M 95) 6 kg2 (by omega))⟩ dX9_copy_14
set_option maxRecDepth 4000 in
theorem k_X2_copyFrom_96_14 (l : Launch) (M : Mem) (hJ : Iw M) : CV l yX2_copyFrom cX2_copyFrom 2 none 1 (fun ad => [.ref (ad 96), .ref (ad 14)]) M (fun M' => Fr [96, 97] M M') := by
  obtain ⟨hI, hW⟩ := hJ
  have hF : Fr [96, 97] M M := Fr.rf
  refine en_v (by decide +kernel) (fun ad => by exact Nat.le_of_ble_eq_true rfl) (fun D cy ad A p e s m args below meth c Q F hret => ?_)
  refine z_eq (ls' := [(0, .ref (ad 96)), (1, .ref (ad 14))]) rfl rfl rfl ?_
  refine z_aload_n F dX2_copyFrom_0 rfl (q := 0) rfl ?_
  refine z_aload_n F dX2_copyFrom_1 rfl (q := 1) rfl ?_
  refine gf_X2_15 F hI gs_14 rfl bd_14_2 dX2_copyFrom_2 (fun v1 ev1 av1 bv1 => ?_)
  refine pf_X2_15 F hI gs_96 rfl bd_96_2 rfl rfl dX2_copyFrom_5 (by omega) (by omega) (fun M3 hI sf2 f2 => ?_)
  have hF := hF.wr f2 (by decide) (by decide)
  have hW : WFk M3 := hW.site f2 (by decide)
  refine z_aload_n F dX2_copyFrom_8 rfl (q := 0) rfl ?_
  refine z_aload_n F dX2_copyFrom_9 rfl (q := 1) rfl ?_
  refine gf_X2_25 F hI gs_14 rfl bd_14_1 dX2_copyFrom_10 (fun v4 ev4 av4 bv4 => ?_)
  refine pf_X2_25 F hI gs_96 rfl bd_96_1 rfl rfl dX2_copyFrom_13 (by omega) (by omega) (fun M6 hI sf5 f5 => ?_)
  have hF := hF.wr f5 (by decide) (by decide)
  have hW : WFk M6 := hW.site f5 (by decide)
  refine z_aload_n F dX2_copyFrom_16 rfl (q := 1) rfl ?_
  refine rf_X2_9 F gs_14 rfl dX2_copyFrom_17 ?_
  refine z_iconst F dX2_copyFrom_20 ?_
  refine z_aload_n F dX2_copyFrom_21 rfl (q := 0) rfl ?_
  refine rf_X2_9 F gs_96 rfl dX2_copyFrom_22 ?_
  refine z_iconst F dX2_copyFrom_25 ?_
  refine z_aload_n F dX2_copyFrom_26 rfl (q := 1) rfl ?_
  refine gf_X2_25 F hI gs_14 rfl bd_14_1 dX2_copyFrom_27 (fun v7 ev7 av7 bv7 => ?_)
  have q8 : v4 = M6 14 1 := ev4.trans (f5 14 1 (fun q => absurd q.1 (by decide))).symm
  have zv7 : v4 = v7 := q8.trans ev7.symm
  subst zv7
  refine z_copy F (by decide) ac_X2_28 hI gs_15 gs_97 (by omega) (by omega) (by omega) (by omega) (by omega) (by decide) (by decide) (fun i hi => rfl) (Nat.le_of_ble_eq_true rfl) dX2_copyFrom_30 (fun M10 hI g9 => ?_)
  have hF := hF.call g9 (by decide)
  have hW : WFk M10 := hW.fr g9 (by decide) (by decide)
  exact hret _ 33 _ ⟨hI, hW⟩ hF dX2_copyFrom_33
set_option maxRecDepth 4000 in
theorem k_X9_copyFrom_84_2 (l : Launch) (M : Mem) (hJ : Iw M) : CV l yX9_copyFrom cX9_copyFrom 2 none 2 (fun ad => [.ref (ad 84), .ref (ad 2)]) M (fun M' => Fr [84, 85, 86, 87, 88, 89, 90, 91, 92, 93, 94, 95, 96, 97] M M' ∧ (M' 84 0 = M 2 0) ∧ (Cp 2 84 M M')) := by
  obtain ⟨hI, hW⟩ := hJ
  have hF : Fr [84, 85, 86, 87, 88, 89, 90, 91, 92, 93, 94, 95, 96, 97] M M := Fr.rf
  have hI0 := hI
  have hW0 := hW
  refine en_v (by decide +kernel) (fun ad => by exact Nat.le_of_ble_eq_true rfl) (fun D cy ad A p e s m args below meth c Q F hret => ?_)
  refine z_eq (ls' := [(0, .ref (ad 84)), (1, .ref (ad 2))]) rfl rfl rfl ?_
  refine z_aload_n F dX9_copyFrom_0 rfl (q := 0) rfl ?_
  refine z_aload_n F dX9_copyFrom_1 rfl (q := 1) rfl ?_
  refine gf_X9_52 F hI gs_2 rfl bd_2_0 dX9_copyFrom_2 (fun v1 ev1 av1 bv1 => ?_)
  refine pf_X9_52 F hI gs_84 rfl bd_84_0 rfl rfl dX9_copyFrom_5 (by omega) (by omega) (fun M3 hI sf2 f2 => ?_)
  have hF := hF.wr f2 (by decide) (by decide)
  have hW : WFk M3 := hW.site f2 (by decide)
  refine z_aload_n F dX9_copyFrom_8 rfl (q := 0) rfl ?_
  refine z_aload_n F dX9_copyFrom_9 rfl (q := 1) rfl ?_
  refine gf_X9_56 F hI gs_2 rfl bd_2_1 dX9_copyFrom_10 (fun v4 ev4 av4 bv4 => ?_)
  refine pf_X9_56 F hI gs_84 rfl bd_84_1 rfl rfl dX9_copyFrom_13 (by omega) (by omega) (fun M6 hI sf5 f5 => ?_)
  have hF := hF.wr f5 (by decide) (by decide)
  have hW : WFk M6 := hW.site f5 (by decide)
  refine z_aload_n F dX9_copyFrom_16 rfl (q := 0) rfl ?_
  refine z_aload_n F dX9_copyFrom_17 rfl (q := 1) rfl ?_
  refine gf_X9_59 F hI gs_2 rfl bd_2_2 dX9_copyFrom_18 (fun v7 ev7 av7 bv7 => ?_)
  refine pf_X9_59 F hI gs_84 rfl bd_84_2 rfl rfl dX9_copyFrom_21 (by omega) (by omega) (fun M9 hI sf8 f8 => ?_)
  have hF := hF.wr f8 (by decide) (by decide)
  have hW : WFk M9 := hW.site f8 (by decide)
  refine z_aload_n F dX9_copyFrom_24 rfl (q := 0) rfl ?_
  refine z_aload_n F dX9_copyFrom_25 rfl (q := 1) rfl ?_
  refine gf_X9_62 F hI gs_2 rfl bd_2_3 dX9_copyFrom_26 (fun v10 ev10 av10 bv10 => ?_)
  refine pf_X9_62 F hI gs_84 rfl bd_84_3 rfl rfl dX9_copyFrom_29 (by omega) (by omega) (fun M12 hI sf11 f11 => ?_)
  have hF := hF.wr f11 (by decide) (by decide)
  have hW : WFk M12 := hW.site f11 (by decide)
  refine z_aload_n F dX9_copyFrom_32 rfl (q := 0) rfl ?_
  refine z_aload_n F dX9_copyFrom_33 rfl (q := 1) rfl ?_
  refine gf_X9_65 F hI gs_2 rfl bd_2_4 dX9_copyFrom_34 (fun v13 ev13 av13 bv13 => ?_)
  refine pf_X9_65 F hI gs_84 rfl bd_84_4 rfl rfl dX9_copyFrom_37 (by omega) (by omega) (fun M15 hI sf14 f14 => ?_)
  have hF := hF.wr f14 (by decide) (by decide)
  have hW : WFk M15 := hW.site f14 (by decide)
  refine z_aload_n F dX9_copyFrom_40 rfl (q := 0) rfl ?_
  refine z_aload_n F dX9_copyFrom_41 rfl (q := 1) rfl ?_
  refine gf_X9_68 F hI gs_2 rfl bd_2_12 dX9_copyFrom_42 (fun v16 ev16 av16 bv16 => ?_)
  refine pf_X9_68 F hI gs_84 rfl bd_84_12 rfl rfl dX9_copyFrom_45 (by omega) (by omega) (fun M18 hI sf17 f17 => ?_)
  have hF := hF.wr f17 (by decide) (by decide)
  have hW : WFk M18 := hW.site f17 (by decide)
  refine z_aload_n F dX9_copyFrom_48 rfl (q := 1) rfl ?_
  refine rf_X9_9 F gs_2 rfl dX9_copyFrom_49 ?_
  refine z_aload_n F dX9_copyFrom_52 rfl (q := 0) rfl ?_
  refine rf_X9_9 F gs_84 rfl dX9_copyFrom_53 ?_
  refine zs_v (rest := []) F (k_X9_copy_3_85 l M18 ⟨hI, hW⟩) cs_X9_77 (by decide) (by decide) rfl rfl rfl (Nat.le_of_ble_eq_true rfl) dX9_copyFrom_56 (fun M19 hI p20 => ?_)
  obtain ⟨hI, hW⟩ := hI
  obtain ⟨fp20, yp20⟩ := p20
  have hF := hF.call fp20 (by decide)
  refine z_aload_n F dX9_copyFrom_59 rfl (q := 1) rfl ?_
  refine rf_X9_15 F gs_2 rfl dX9_copyFrom_60 ?_
  refine z_aload_n F dX9_copyFrom_63 rfl (q := 0) rfl ?_
  refine rf_X9_15 F gs_84 rfl dX9_copyFrom_64 ?_
  refine zs_v (rest := []) F (k_X9_copy_4_86 l M19 ⟨hI, hW⟩) cs_X9_77 (by decide) (by decide) rfl rfl rfl (Nat.le_of_ble_eq_true rfl) dX9_copyFrom_67 (fun M21 hI p22 => ?_)
  obtain ⟨hI, hW⟩ := hI
  obtain ⟨fp22, yp22⟩ := p22
  have hF := hF.call fp22 (by decide)
  refine z_aload_n F dX9_copyFrom_70 rfl (q := 1) rfl ?_
  refine rf_X9_18 F gs_2 rfl dX9_copyFrom_71 ?_
  refine z_aload_n F dX9_copyFrom_74 rfl (q := 0) rfl ?_
  refine rf_X9_18 F gs_84 rfl dX9_copyFrom_75 ?_
  refine zs_v (rest := []) F (k_X9_copy_5_87 l M21 ⟨hI, hW⟩) cs_X9_77 (by decide) (by decide) rfl rfl rfl (Nat.le_of_ble_eq_true rfl) dX9_copyFrom_78 (fun M23 hI p24 => ?_)
  obtain ⟨hI, hW⟩ := hI
  obtain ⟨fp24, yp24⟩ := p24
  have hF := hF.call fp24 (by decide)
  refine z_aload_n F dX9_copyFrom_81 rfl (q := 1) rfl ?_
  refine rf_X9_21 F gs_2 rfl dX9_copyFrom_82 ?_
  refine z_aload_n F dX9_copyFrom_85 rfl (q := 0) rfl ?_
  refine rf_X9_21 F gs_84 rfl dX9_copyFrom_86 ?_
  refine zs_v (rest := []) F (k_X9_copy_6_88 l M23 ⟨hI, hW⟩) cs_X9_77 (by decide) (by decide) rfl rfl rfl (Nat.le_of_ble_eq_true rfl) dX9_copyFrom_89 (fun M25 hI p26 => ?_)
  obtain ⟨hI, hW⟩ := hI
  obtain ⟨fp26, yp26⟩ := p26
  have hF := hF.call fp26 (by decide)
  refine z_aload_n F dX9_copyFrom_92 rfl (q := 1) rfl ?_
  refine rf_X9_24 F gs_2 rfl dX9_copyFrom_93 ?_
  refine z_aload_n F dX9_copyFrom_96 rfl (q := 0) rfl ?_
  refine rf_X9_24 F gs_84 rfl dX9_copyFrom_97 ?_
  refine zs_v (rest := []) F (k_X9_copy_7_89 l M25 ⟨hI, hW⟩) cs_X9_77 (by decide) (by decide) rfl rfl rfl (Nat.le_of_ble_eq_true rfl) dX9_copyFrom_100 (fun M27 hI p28 => ?_)
  obtain ⟨hI, hW⟩ := hI
  obtain ⟨fp28, yp28⟩ := p28
  have hF := hF.call fp28 (by decide)
  refine z_aload_n F dX9_copyFrom_103 rfl (q := 1) rfl ?_
  refine rf_X9_27 F gs_2 rfl dX9_copyFrom_104 ?_
  refine z_aload_n F dX9_copyFrom_107 rfl (q := 0) rfl ?_
  refine rf_X9_27 F gs_84 rfl dX9_copyFrom_108 ?_
  refine zs_v (rest := []) F (k_X9_copy_8_90 l M27 ⟨hI, hW⟩) cs_X9_77 (by decide) (by decide) rfl rfl rfl (Nat.le_of_ble_eq_true rfl) dX9_copyFrom_111 (fun M29 hI p30 => ?_)
  obtain ⟨hI, hW⟩ := hI
  obtain ⟨fp30, yp30⟩ := p30
  have hF := hF.call fp30 (by decide)
  refine z_aload_n F dX9_copyFrom_114 rfl (q := 1) rfl ?_
  refine rf_X9_30 F gs_2 rfl dX9_copyFrom_115 ?_
  refine z_aload_n F dX9_copyFrom_118 rfl (q := 0) rfl ?_
  refine rf_X9_30 F gs_84 rfl dX9_copyFrom_119 ?_
  refine zs_v (rest := []) F (k_X9_copy_9_91 l M29 ⟨hI, hW⟩) cs_X9_77 (by decide) (by decide) rfl rfl rfl (Nat.le_of_ble_eq_true rfl) dX9_copyFrom_122 (fun M31 hI p32 => ?_)
  obtain ⟨hI, hW⟩ := hI
  obtain ⟨fp32, yp32⟩ := p32
  have hF := hF.call fp32 (by decide)
  refine z_aload_n F dX9_copyFrom_125 rfl (q := 1) rfl ?_
  refine rf_X9_33 F gs_2 rfl dX9_copyFrom_126 ?_
  refine z_aload_n F dX9_copyFrom_129 rfl (q := 0) rfl ?_
  refine rf_X9_33 F gs_84 rfl dX9_copyFrom_130 ?_
  refine zs_v (rest := []) F (k_X9_copy_10_92 l M31 ⟨hI, hW⟩) cs_X9_77 (by decide) (by decide) rfl rfl rfl (Nat.le_of_ble_eq_true rfl) dX9_copyFrom_133 (fun M33 hI p34 => ?_)
  obtain ⟨hI, hW⟩ := hI
  obtain ⟨fp34, yp34⟩ := p34
  have hF := hF.call fp34 (by decide)
  refine z_aload_n F dX9_copyFrom_136 rfl (q := 1) rfl ?_
  refine rf_X9_36 F gs_2 rfl dX9_copyFrom_137 ?_
  refine z_aload_n F dX9_copyFrom_140 rfl (q := 0) rfl ?_
  refine rf_X9_36 F gs_84 rfl dX9_copyFrom_141 ?_
  refine zs_v (rest := []) F (k_X9_copy_11_93 l M33 ⟨hI, hW⟩) cs_X9_77 (by decide) (by decide) rfl rfl rfl (Nat.le_of_ble_eq_true rfl) dX9_copyFrom_144 (fun M35 hI p36 => ?_)
  obtain ⟨hI, hW⟩ := hI
  obtain ⟨fp36, yp36⟩ := p36
  have hF := hF.call fp36 (by decide)
  refine z_aload_n F dX9_copyFrom_147 rfl (q := 1) rfl ?_
  refine rf_X9_39 F gs_2 rfl dX9_copyFrom_148 ?_
  refine z_aload_n F dX9_copyFrom_151 rfl (q := 0) rfl ?_
  refine rf_X9_39 F gs_84 rfl dX9_copyFrom_152 ?_
  refine zs_v (rest := []) F (k_X9_copy_12_94 l M35 ⟨hI, hW⟩) cs_X9_77 (by decide) (by decide) rfl rfl rfl (Nat.le_of_ble_eq_true rfl) dX9_copyFrom_155 (fun M37 hI p38 => ?_)
  obtain ⟨hI, hW⟩ := hI
  obtain ⟨fp38, yp38⟩ := p38
  have hF := hF.call fp38 (by decide)
  refine z_aload_n F dX9_copyFrom_158 rfl (q := 1) rfl ?_
  refine rf_X9_42 F gs_2 rfl dX9_copyFrom_159 ?_
  refine z_aload_n F dX9_copyFrom_162 rfl (q := 0) rfl ?_
  refine rf_X9_42 F gs_84 rfl dX9_copyFrom_163 ?_
  refine zs_v (rest := []) F (k_X9_copy_13_95 l M37 ⟨hI, hW⟩) cs_X9_77 (by decide) (by decide) rfl rfl rfl (Nat.le_of_ble_eq_true rfl) dX9_copyFrom_166 (fun M39 hI p40 => ?_)
  obtain ⟨hI, hW⟩ := hI
  obtain ⟨fp40, yp40⟩ := p40
  have hF := hF.call fp40 (by decide)
  refine z_aload_n F dX9_copyFrom_169 rfl (q := 0) rfl ?_
  refine rf_X9_48 F gs_84 rfl dX9_copyFrom_170 ?_
  refine z_aload_n F dX9_copyFrom_173 rfl (q := 1) rfl ?_
  refine rf_X9_48 F gs_2 rfl dX9_copyFrom_174 ?_
  refine zv_v (rest := []) F (k_X2_copyFrom_96_14 l M39 ⟨hI, hW⟩) cs_X9_81 (T := TX2) (N := 5) (ci := 2) rfl gs_96 (by decide) (by decide) rfl rfl rfl (Nat.le_of_ble_eq_true rfl) dX9_copyFrom_177 (fun M41 hI p42 => ?_)
  obtain ⟨hI, hW⟩ := hI
  have fp42 := p42
  have hF := hF.call fp42 (by decide)
  have q43 : v1 = M6 84 0 := sf2.symm.trans (f5 84 0 (fun q => absurd q.2 (by decide))).symm
  have q44 : v1 = M9 84 0 := q43.trans (f8 84 0 (fun q => absurd q.2 (by decide))).symm
  have q45 : v1 = M12 84 0 := q44.trans (f11 84 0 (fun q => absurd q.2 (by decide))).symm
  have q46 : v1 = M15 84 0 := q45.trans (f14 84 0 (fun q => absurd q.2 (by decide))).symm
  have q47 : v1 = M18 84 0 := q46.trans (f17 84 0 (fun q => absurd q.2 (by decide))).symm
  have q48 : v1 = M19 84 0 := q47.trans ((fp20.at (by decide)) : M19 84 0 = _).symm
  have q49 : v1 = M21 84 0 := q48.trans ((fp22.at (by decide)) : M21 84 0 = _).symm
  have q50 : v1 = M23 84 0 := q49.trans ((fp24.at (by decide)) : M23 84 0 = _).symm
  have q51 : v1 = M25 84 0 := q50.trans ((fp26.at (by decide)) : M25 84 0 = _).symm
  have q52 : v1 = M27 84 0 := q51.trans ((fp28.at (by decide)) : M27 84 0 = _).symm
  have q53 : v1 = M29 84 0 := q52.trans ((fp30.at (by decide)) : M29 84 0 = _).symm
  have q54 : v1 = M31 84 0 := q53.trans ((fp32.at (by decide)) : M31 84 0 = _).symm
  have q55 : v1 = M33 84 0 := q54.trans ((fp34.at (by decide)) : M33 84 0 = _).symm
  have q56 : v1 = M35 84 0 := q55.trans ((fp36.at (by decide)) : M35 84 0 = _).symm
  have q57 : v1 = M37 84 0 := q56.trans ((fp38.at (by decide)) : M37 84 0 = _).symm
  have q58 : v1 = M39 84 0 := q57.trans ((fp40.at (by decide)) : M39 84 0 = _).symm
  have q59 : v1 = M41 84 0 := q58.trans ((fp42.at (by decide)) : M41 84 0 = _).symm
  have q60 : v4 = M9 84 1 := sf5.symm.trans (f8 84 1 (fun q => absurd q.2 (by decide))).symm
  have q61 : v4 = M12 84 1 := q60.trans (f11 84 1 (fun q => absurd q.2 (by decide))).symm
  have q62 : v4 = M15 84 1 := q61.trans (f14 84 1 (fun q => absurd q.2 (by decide))).symm
  have q63 : v4 = M18 84 1 := q62.trans (f17 84 1 (fun q => absurd q.2 (by decide))).symm
  have q64 : v4 = M19 84 1 := q63.trans ((fp20.at (by decide)) : M19 84 1 = _).symm
  have q65 : v4 = M21 84 1 := q64.trans ((fp22.at (by decide)) : M21 84 1 = _).symm
  have q66 : v4 = M23 84 1 := q65.trans ((fp24.at (by decide)) : M23 84 1 = _).symm
  have q67 : v4 = M25 84 1 := q66.trans ((fp26.at (by decide)) : M25 84 1 = _).symm
  have q68 : v4 = M27 84 1 := q67.trans ((fp28.at (by decide)) : M27 84 1 = _).symm
  have q69 : v4 = M29 84 1 := q68.trans ((fp30.at (by decide)) : M29 84 1 = _).symm
  have q70 : v4 = M31 84 1 := q69.trans ((fp32.at (by decide)) : M31 84 1 = _).symm
  have q71 : v4 = M33 84 1 := q70.trans ((fp34.at (by decide)) : M33 84 1 = _).symm
  have q72 : v4 = M35 84 1 := q71.trans ((fp36.at (by decide)) : M35 84 1 = _).symm
  have q73 : v4 = M37 84 1 := q72.trans ((fp38.at (by decide)) : M37 84 1 = _).symm
  have q74 : v4 = M39 84 1 := q73.trans ((fp40.at (by decide)) : M39 84 1 = _).symm
  have q75 : v4 = M41 84 1 := q74.trans ((fp42.at (by decide)) : M41 84 1 = _).symm
  have q76 : v10 = M15 84 3 := sf11.symm.trans (f14 84 3 (fun q => absurd q.2 (by decide))).symm
  have q77 : v10 = M18 84 3 := q76.trans (f17 84 3 (fun q => absurd q.2 (by decide))).symm
  have q78 : v10 = M19 84 3 := q77.trans ((fp20.at (by decide)) : M19 84 3 = _).symm
  have q79 : v10 = M21 84 3 := q78.trans ((fp22.at (by decide)) : M21 84 3 = _).symm
  have q80 : v10 = M23 84 3 := q79.trans ((fp24.at (by decide)) : M23 84 3 = _).symm
  have q81 : v10 = M25 84 3 := q80.trans ((fp26.at (by decide)) : M25 84 3 = _).symm
  have q82 : v10 = M27 84 3 := q81.trans ((fp28.at (by decide)) : M27 84 3 = _).symm
  have q83 : v10 = M29 84 3 := q82.trans ((fp30.at (by decide)) : M29 84 3 = _).symm
  have q84 : v10 = M31 84 3 := q83.trans ((fp32.at (by decide)) : M31 84 3 = _).symm
  have q85 : v10 = M33 84 3 := q84.trans ((fp34.at (by decide)) : M33 84 3 = _).symm
  have q86 : v10 = M35 84 3 := q85.trans ((fp36.at (by decide)) : M35 84 3 = _).symm
  have q87 : v10 = M37 84 3 := q86.trans ((fp38.at (by decide)) : M37 84 3 = _).symm
  have q88 : v10 = M39 84 3 := q87.trans ((fp40.at (by decide)) : M39 84 3 = _).symm
  have q89 : v10 = M41 84 3 := q88.trans ((fp42.at (by decide)) : M41 84 3 = _).symm
  have q90 : v13 = M18 84 4 := sf14.symm.trans (f17 84 4 (fun q => absurd q.2 (by decide))).symm
  have q91 : v13 = M19 84 4 := q90.trans ((fp20.at (by decide)) : M19 84 4 = _).symm
  have q92 : v13 = M21 84 4 := q91.trans ((fp22.at (by decide)) : M21 84 4 = _).symm
  have q93 : v13 = M23 84 4 := q92.trans ((fp24.at (by decide)) : M23 84 4 = _).symm
  have q94 : v13 = M25 84 4 := q93.trans ((fp26.at (by decide)) : M25 84 4 = _).symm
  have q95 : v13 = M27 84 4 := q94.trans ((fp28.at (by decide)) : M27 84 4 = _).symm
  have q96 : v13 = M29 84 4 := q95.trans ((fp30.at (by decide)) : M29 84 4 = _).symm
  have q97 : v13 = M31 84 4 := q96.trans ((fp32.at (by decide)) : M31 84 4 = _).symm
  have q98 : v13 = M33 84 4 := q97.trans ((fp34.at (by decide)) : M33 84 4 = _).symm
  have q99 : v13 = M35 84 4 := q98.trans ((fp36.at (by decide)) : M35 84 4 = _).symm
  have q100 : v13 = M37 84 4 := q99.trans ((fp38.at (by decide)) : M37 84 4 = _).symm
  have q101 : v13 = M39 84 4 := q100.trans ((fp40.at (by decide)) : M39 84 4 = _).symm
  have q102 : v13 = M41 84 4 := q101.trans ((fp42.at (by decide)) : M41 84 4 = _).symm
  exact hret _ 180 _ ⟨hI, hW⟩ ⟨hF, (Eq.trans (Eq.symm q59) ev1), (cp_i (sC_eq (hI0.at (show Bd 2 1 = (0, 10) from rfl)).2 (hI0.at (show Bd 2 4 = (0, 6) from rfl)).2 (q75.symm.trans (ev4.trans (f2 2 1 (fun q => absurd q.1 (by decide))))) (q89.symm.trans (ev10.trans ((f8 2 3 (fun q => absurd q.1 (by decide))).trans ((f5 2 3 (fun q => absurd q.1 (by decide))).trans (f2 2 3 (fun q => absurd q.1 (by decide))))))) (q102.symm.trans (ev13.trans ((f11 2 4 (fun q => absurd q.1 (by decide))).trans ((f8 2 4 (fun q => absurd q.1 (by decide))).trans ((f5 2 4 (fun q => absurd q.1 (by decide))).trans (f2 2 4 (fun q => absurd q.1 (by decide)))))))) (fun j h => ((fp42.at (by decide) : M41 85 j = _).trans ((fp40.at (by decide) : M39 85 j = _).trans ((fp38.at (by decide) : M37 85 j = _).trans ((fp36.at (by decide) : M35 85 j = _).trans ((fp34.at (by decide) : M33 85 j = _).trans ((fp32.at (by decide) : M31 85 j = _).trans ((fp30.at (by decide) : M29 85 j = _).trans ((fp28.at (by decide) : M27 85 j = _).trans ((fp26.at (by decide) : M25 85 j = _).trans ((fp24.at (by decide) : M23 85 j = _).trans (fp22.at (by decide) : M21 85 j = _))))))))))).trans ((yp20 j h).trans ((f17 3 j (fun q => absurd q.1 (by decide))).trans ((f14 3 j (fun q => absurd q.1 (by decide))).trans ((f11 3 j (fun q => absurd q.1 (by decide))).trans ((f8 3 j (fun q => absurd q.1 (by decide))).trans ((f5 3 j (fun q => absurd q.1 (by decide))).trans (f2 3 j (fun q => absurd q.1 (by decide)))))))))) (fun j h => ((fp42.at (by decide) : M41 92 j = _).trans ((fp40.at (by decide) : M39 92 j = _).trans ((fp38.at (by decide) : M37 92 j = _).trans (fp36.at (by decide) : M35 92 j = _)))).trans ((yp34 j h).trans ((fp32.at (by decide) : M31 10 j = _).trans ((fp30.at (by decide) : M29 10 j = _).trans ((fp28.at (by decide) : M27 10 j = _).trans ((fp26.at (by decide) : M25 10 j = _).trans ((fp24.at (by decide) : M23 10 j = _).trans ((fp22.at (by decide) : M21 10 j = _).trans ((fp20.at (by decide) : M19 10 j = _).trans ((f17 10 j (fun q => absurd q.1 (by decide))).trans ((f14 10 j (fun q => absurd q.1 (by decide))).trans ((f11 10 j (fun q => absurd q.1 (by decide))).trans ((f8 10 j (fun q => absurd q.1 (by decide))).trans ((f5 10 j (fun q => absurd q.1 (by decide))).trans (f2 10 j (fun q => absurd q.1 (by decide))))))))))))))))) (fun j h => ((fp42.at (by decide) : M41 93 j = _).trans ((fp40.at (by decide) : M39 93 j = _).trans (fp38.at (by decide) : M37 93 j = _))).trans ((yp36 j h).trans ((fp34.at (by decide) : M33 11 j = _).trans ((fp32.at (by decide) : M31 11 j = _).trans ((fp30.at (by decide) : M29 11 j = _).trans ((fp28.at (by decide) : M27 11 j = _).trans ((fp26.at (by decide) : M25 11 j = _).trans ((fp24.at (by decide) : M23 11 j = _).trans ((fp22.at (by decide) : M21 11 j = _).trans ((fp20.at (by decide) : M19 11 j = _).trans ((f17 11 j (fun q => absurd q.1 (by decide))).trans ((f14 11 j (fun q => absurd q.1 (by decide))).trans ((f11 11 j (fun q => absurd q.1 (by decide))).trans ((f8 11 j (fun q => absurd q.1 (by decide))).trans ((f5 11 j (fun q => absurd q.1 (by decide))).trans (f2 11 j (fun q => absurd q.1 (by decide)))))))))))))))))) (fun j h => ((fp42.at (by decide) : M41 94 j = _).trans (fp40.at (by decide) : M39 94 j = _)).trans ((yp38 j h).trans ((fp36.at (by decide) : M35 12 j = _).trans ((fp34.at (by decide) : M33 12 j = _).trans ((fp32.at (by decide) : M31 12 j = _).trans ((fp30.at (by decide) : M29 12 j = _).trans ((fp28.at (by decide) : M27 12 j = _).trans ((fp26.at (by decide) : M25 12 j = _).trans ((fp24.at (by decide) : M23 12 j = _).trans ((fp22.at (by decide) : M21 12 j = _).trans ((fp20.at (by decide) : M19 12 j = _).trans ((f17 12 j (fun q => absurd q.1 (by decide))).trans ((f14 12 j (fun q => absurd q.1 (by decide))).trans ((f11 12 j (fun q => absurd q.1 (by decide))).trans ((f8 12 j (fun q => absurd q.1 (by decide))).trans ((f5 12 j (fun q => absurd q.1 (by decide))).trans (f2 12 j (fun q => absurd q.1 (by decide)))))))))))))))))))) (fun j h => ((fp42.at (by decide) : M41 87 j = _).trans ((fp40.at (by decide) : M39 87 j = _).trans ((fp38.at (by decide) : M37 87 j = _).trans ((fp36.at (by decide) : M35 87 j = _).trans ((fp34.at (by decide) : M33 87 j = _).trans ((fp32.at (by decide) : M31 87 j = _).trans ((fp30.at (by decide) : M29 87 j = _).trans ((fp28.at (by decide) : M27 87 j = _).trans (fp26.at (by decide) : M25 87 j = _))))))))).trans ((yp24 j h).trans ((fp22.at (by decide) : M21 5 j = _).trans ((fp20.at (by decide) : M19 5 j = _).trans ((f17 5 j (fun q => absurd q.1 (by decide))).trans ((f14 5 j (fun q => absurd q.1 (by decide))).trans ((f11 5 j (fun q => absurd q.1 (by decide))).trans ((f8 5 j (fun q => absurd q.1 (by decide))).trans ((f5 5 j (fun q => absurd q.1 (by decide))).trans (f2 5 j (fun q => absurd q.1 (by decide)))))))))))))⟩ dX9_copyFrom_180
set_option maxRecDepth 4000 in
theorem k_X7_save_35_100 (l : Launch) (M : Mem) (hJ : Iw M) (x1 : Int) (hx1a : (-2147483648) ≤ x1) (hx1b : x1 ≤ 2147483647) (hp0 : x1 % 34 = 0) : CV l yX7_save cX7_save 3 none 1 (fun ad => [.ref (ad 35), .ref (ad 100), ii x1]) M (fun M' => Fr [100] M M') := by
  obtain ⟨hI, hW⟩ := hJ
  have hF : Fr [100] M M := Fr.rf
  refine en_v (by decide +kernel) (fun ad => by exact Nat.le_of_ble_eq_true rfl) (fun D cy ad A p e s m args below meth c Q F hret => ?_)
  refine z_eq (ls' := [(0, .ref (ad 35)), (1, .ref (ad 100)), (2, ii x1)]) rfl rfl rfl ?_
  refine z_iload_n F dX7_save_0 rfl (q := 2) rfl ?_
  refine z_if_lt (tgt := 13) F dX7_save_1 (by decide +kernel) (by omega) (fun c1 => ?_) (fun c1 => ?_)
  · exact hret _ 13 _ ⟨hI, hW⟩ hF dX7_save_13
  · refine z_iload_n F dX7_save_4 rfl (q := 2) rfl ?_
    refine z_aload_n F dX7_save_5 rfl (q := 1) rfl ?_
    refine z_alen (x := 34) F gs_100 rfl rfl dX7_save_6 ?_
    refine z_bipush F dX7_save_7 (by decide +kernel) ?_
    refine z_isub F dX7_save_9 ?_
    refine z_icmp_le (tgt := 14) F dX7_save_10 (by decide +kernel) (by omega) (by omega) (fun c2 => ?_) (fun c2 => ?_)
    · refine z_aload_n F dX7_save_14 rfl (q := 0) rfl ?_
      refine rf_X7_9 F gs_35 rfl dX7_save_15 ?_
      refine z_iconst F dX7_save_18 ?_
      refine z_aload_n F dX7_save_19 rfl (q := 1) rfl ?_
      refine z_iload_n F dX7_save_20 rfl (q := 2) rfl ?_
      refine z_bipush F dX7_save_21 (by decide +kernel) ?_
      refine z_copy F (by decide) ac_X7_50 hI gs_36 gs_100 (by omega) (by omega) (by omega) (by omega) (by omega) (by decide) (by decide) (fun i hi => (show Bd 100 _ = (0, 9) from (bd_100.trans (sc_p (by omega)))).trans (show Bd 36 _ = (0, 9) from rfl).symm) (Nat.le_of_ble_eq_true rfl) dX7_save_23 (fun M4 hI g3 => ?_)
      have hF := hF.call g3 (by decide)
      have hW : WFk M4 := hW.fr g3 (by decide) (by decide)
      refine z_aload_n F dX7_save_26 rfl (q := 0) rfl ?_
      refine rf_X7_15 F gs_35 rfl dX7_save_27 ?_
      refine z_iconst F dX7_save_30 ?_
      refine z_aload_n F dX7_save_31 rfl (q := 1) rfl ?_
      refine z_iload_n F dX7_save_32 rfl (q := 2) rfl ?_
      refine z_bipush F dX7_save_33 (by decide +kernel) ?_
      refine z_iadd F dX7_save_35 ?_
      refine z_bipush F dX7_save_36 (by decide +kernel) ?_
      refine z_copy F (by decide) ac_X7_50 hI gs_37 gs_100 (by omega) (by omega) (by omega) (by omega) (by omega) (by decide) (by decide) (fun i hi => (show Bd 100 _ = (-2147483648, 2147483647) from (bd_100.trans (sc_n (by omega)))).trans (show Bd 37 _ = (-2147483648, 2147483647) from rfl).symm) (Nat.le_of_ble_eq_true rfl) dX7_save_38 (fun M6 hI g5 => ?_)
      have hF := hF.call g5 (by decide)
      have hW : WFk M6 := hW.fr g5 (by decide) (by decide)
      refine z_aload_n F dX7_save_41 rfl (q := 0) rfl ?_
      refine rf_X7_18 F gs_35 rfl dX7_save_42 ?_
      refine z_iconst F dX7_save_45 ?_
      refine z_aload_n F dX7_save_46 rfl (q := 1) rfl ?_
      refine z_iload_n F dX7_save_47 rfl (q := 2) rfl ?_
      refine z_bipush F dX7_save_48 (by decide +kernel) ?_
      refine z_iadd F dX7_save_50 ?_
      refine z_bipush F dX7_save_51 (by decide +kernel) ?_
      refine z_copy F (by decide) ac_X7_50 hI gs_38 gs_100 (by omega) (by omega) (by omega) (by omega) (by omega) (by decide) (by decide) (fun i hi => (show Bd 100 _ = (-2147483648, 2147483647) from (bd_100.trans (sc_n (by omega)))).trans (show Bd 38 _ = (-2147483648, 2147483647) from rfl).symm) (Nat.le_of_ble_eq_true rfl) dX7_save_53 (fun M8 hI g7 => ?_)
      have hF := hF.call g7 (by decide)
      have hW : WFk M8 := hW.fr g7 (by decide) (by decide)
      refine z_aload_n F dX7_save_56 rfl (q := 0) rfl ?_
      refine rf_X7_21 F gs_35 rfl dX7_save_57 ?_
      refine z_iconst F dX7_save_60 ?_
      refine z_aload_n F dX7_save_61 rfl (q := 1) rfl ?_
      refine z_iload_n F dX7_save_62 rfl (q := 2) rfl ?_
      refine z_bipush F dX7_save_63 (by decide +kernel) ?_
      refine z_iadd F dX7_save_65 ?_
      refine z_bipush F dX7_save_66 (by decide +kernel) ?_
      refine z_copy F (by decide) ac_X7_50 hI gs_39 gs_100 (by omega) (by omega) (by omega) (by omega) (by omega) (by decide) (by decide) (fun i hi => (show Bd 100 _ = (-2147483648, 2147483647) from (bd_100.trans (sc_n (by omega)))).trans (show Bd 39 _ = (-2147483648, 2147483647) from rfl).symm) (Nat.le_of_ble_eq_true rfl) dX7_save_68 (fun M10 hI g9 => ?_)
      have hF := hF.call g9 (by decide)
      have hW : WFk M10 := hW.fr g9 (by decide) (by decide)
      refine z_aload_n F dX7_save_71 rfl (q := 1) rfl ?_
      refine z_iload_n F dX7_save_72 rfl (q := 2) rfl ?_
      refine z_bipush F dX7_save_73 (by decide +kernel) ?_
      refine z_iadd F dX7_save_75 ?_
      refine z_iconst F dX7_save_76 ?_
      refine z_isub F dX7_save_77 ?_
      refine z_aload_n F dX7_save_78 rfl (q := 0) rfl ?_
      refine gf_X7_44 F hI gs_35 rfl bd_35_5 dX7_save_79 (fun v11 ev11 av11 bv11 => ?_)
      refine z_iast F hI gs_100 (by omega) (by omega) (by decide) (bd_100.trans (sc_n (by omega))) dX7_save_82 (by omega) (by omega) (fun M13 hI sf12 f12 => ?_)
      have hF := hF.wr f12 (by decide) (by decide)
      have hW : WFk M13 := hW.site f12 (by decide)
      refine z_aload_n F dX7_save_83 rfl (q := 1) rfl ?_
      refine z_iload_n F dX7_save_84 rfl (q := 2) rfl ?_
      refine z_bipush F dX7_save_85 (by decide +kernel) ?_
      refine z_iadd F dX7_save_87 ?_
      refine z_iconst F dX7_save_88 ?_
      refine z_isub F dX7_save_89 ?_
      refine z_aload_n F dX7_save_90 rfl (q := 0) rfl ?_
      refine gf_X7_47 F hI gs_35 rfl bd_35_6 dX7_save_91 (fun v14 ev14 av14 bv14 => ?_)
      refine z_iast F hI gs_100 (by omega) (by omega) (by decide) (bd_100.trans (sc_n (by omega))) dX7_save_94 (by omega) (by omega) (fun M16 hI sf15 f15 => ?_)
      have hF := hF.wr f15 (by decide) (by decide)
      have hW : WFk M16 := hW.site f15 (by decide)
      exact hret _ 95 _ ⟨hI, hW⟩ hF dX7_save_95
    · exact hret _ 13 _ ⟨hI, hW⟩ hF dX7_save_13
set_option maxRecDepth 4000 in
theorem k_X4_copyFrom_101_40 (l : Launch) (M : Mem) (hJ : Iw M) : CV l yX4_copyFrom cX4_copyFrom 2 none 1 (fun ad => [.ref (ad 101), .ref (ad 40)]) M (fun M' => Fr [101, 102] M M') := by
  obtain ⟨hI, hW⟩ := hJ
  have hF : Fr [101, 102] M M := Fr.rf
  refine en_v (by decide +kernel) (fun ad => by exact Nat.le_of_ble_eq_true rfl) (fun D cy ad A p e s m args below meth c Q F hret => ?_)
  refine z_eq (ls' := [(0, .ref (ad 101)), (1, .ref (ad 40))]) rfl rfl rfl ?_
  refine z_aload_n F dX4_copyFrom_0 rfl (q := 0) rfl ?_
  refine z_aload_n F dX4_copyFrom_1 rfl (q := 1) rfl ?_
  refine gf_X4_17 F hI gs_40 rfl bd_40_0 dX4_copyFrom_2 (fun v1 ev1 av1 bv1 => ?_)
  refine pf_X4_17 F hI gs_101 rfl bd_101_0 rfl rfl dX4_copyFrom_5 (by omega) (by omega) (fun M3 hI sf2 f2 => ?_)
  have hF := hF.wr f2 (by decide) (by decide)
  have hW : WFk M3 := hW.site f2 (by decide)
  refine z_aload_n F dX4_copyFrom_8 rfl (q := 0) rfl ?_
  refine z_aload_n F dX4_copyFrom_9 rfl (q := 1) rfl ?_
  refine gf_X4_21 F hI gs_40 rfl bd_40_1 dX4_copyFrom_10 (fun v4 ev4 av4 bv4 => ?_)
  refine pf_X4_21 F hI gs_101 rfl bd_101_1 rfl rfl dX4_copyFrom_13 (by omega) (by omega) (fun M6 hI sf5 f5 => ?_)
  have hF := hF.wr f5 (by decide) (by decide)
  have hW : WFk M6 := hW.site f5 (by decide)
  refine z_aload_n F dX4_copyFrom_16 rfl (q := 1) rfl ?_
  refine rf_X4_11 F gs_40 rfl dX4_copyFrom_17 ?_
  refine z_iconst F dX4_copyFrom_20 ?_
  refine z_aload_n F dX4_copyFrom_21 rfl (q := 0) rfl ?_
  refine rf_X4_11 F gs_101 rfl dX4_copyFrom_22 ?_
  refine z_iconst F dX4_copyFrom_25 ?_
  refine z_aload_n F dX4_copyFrom_26 rfl (q := 0) rfl ?_
  refine rf_X4_11 F gs_101 rfl dX4_copyFrom_27 ?_
  refine z_alen (x := 408) F gs_102 rfl rfl dX4_copyFrom_30 ?_
  refine z_copy F (by decide) ac_X4_40 hI gs_41 gs_102 (by omega) (by omega) (by omega) (by omega) (by omega) (by decide) (by decide) (fun i hi => rfl) (Nat.le_of_ble_eq_true rfl) dX4_copyFrom_31 (fun M8 hI g7 => ?_)
  have hF := hF.call g7 (by decide)
  have hW : WFk M8 := hW.fr g7 (by decide) (by decide)
  exact hret _ 34 _ ⟨hI, hW⟩ hF dX4_copyFrom_34
set_option maxRecDepth 4000 in
theorem k_X1_take_83_2_35_40 (l : Launch) (M : Mem) (hJ : Iw M) : CV l yX1_take cX1_take 4 none 3 (fun ad => [.ref (ad 83), .ref (ad 2), .ref (ad 35), .ref (ad 40)]) M (fun M' => Fr [83, 84, 85, 86, 87, 88, 89, 90, 91, 92, 93, 94, 95, 96, 97, 100, 101, 102] M M' ∧ (M' 83 0 = 1) ∧ (Cp 2 84 M M')) := by
  obtain ⟨hI, hW⟩ := hJ
  have hF : Fr [83, 84, 85, 86, 87, 88, 89, 90, 91, 92, 93, 94, 95, 96, 97, 100, 101, 102] M M := Fr.rf
  refine en_v (by decide +kernel) (fun ad => by exact Nat.le_of_ble_eq_true rfl) (fun D cy ad A p e s m args below meth c Q F hret => ?_)
  refine z_eq (ls' := [(0, .ref (ad 83)), (1, .ref (ad 2)), (2, .ref (ad 35)), (3, .ref (ad 40))]) rfl rfl rfl ?_
  refine z_aload_n F dX1_take_0 rfl (q := 0) rfl ?_
  refine z_iconst F dX1_take_1 ?_
  refine pf_X1_29 F hI gs_83 rfl bd_83_0 (nar_z (by omega) (by omega)) (fit_z (by omega) (by omega)) dX1_take_2 (by omega) (by omega) (fun M2 hI sf1 f1 => ?_)
  have hF := hF.wr f1 (by decide) (by decide)
  have hW : WFk M2 := hW.site f1 (by decide)
  refine z_aload_n F dX1_take_5 rfl (q := 0) rfl ?_
  refine rf_X1_10 F gs_83 rfl dX1_take_6 ?_
  refine z_aload_n F dX1_take_9 rfl (q := 1) rfl ?_
  refine zv_v (rest := []) F (k_X9_copyFrom_84_2 l M2 ⟨hI, hW⟩) cs_X1_33 (T := TX9) (N := 18) (ci := 9) rfl gs_84 (by decide) (by decide) rfl rfl rfl (Nat.le_of_ble_eq_true rfl) dX1_take_10 (fun M3 hI p4 => ?_)
  obtain ⟨hI, hW⟩ := hI
  obtain ⟨fp4, xp4, yp4⟩ := p4
  have hF := hF.call fp4 (by decide)
  refine z_aload_n F dX1_take_13 rfl (q := 2) rfl ?_
  refine z_aload_n F dX1_take_14 rfl (q := 0) rfl ?_
  refine rf_X1_18 F gs_83 rfl dX1_take_15 ?_
  refine z_iconst F dX1_take_18 ?_
  refine zv_v (rest := []) F (k_X7_save_35_100 l M3 ⟨hI, hW⟩ 0 (by omega) (by omega) (by omega)) cs_X1_37 (T := TX7) (N := 7) (ci := 7) rfl gs_35 (by decide) (by decide) rfl rfl rfl (Nat.le_of_ble_eq_true rfl) dX1_take_19 (fun M5 hI p6 => ?_)
  obtain ⟨hI, hW⟩ := hI
  have fp6 := p6
  have hF := hF.call fp6 (by decide)
  refine z_aload_n F dX1_take_22 rfl (q := 0) rfl ?_
  refine rf_X1_25 F gs_83 rfl dX1_take_23 ?_
  refine z_aload_n F dX1_take_26 rfl (q := 3) rfl ?_
  refine zv_v (rest := []) F (k_X4_copyFrom_101_40 l M5 ⟨hI, hW⟩) cs_X1_41 (T := TX4) (N := 3) (ci := 4) rfl gs_101 (by decide) (by decide) rfl rfl rfl (Nat.le_of_ble_eq_true rfl) dX1_take_27 (fun M7 hI p8 => ?_)
  obtain ⟨hI, hW⟩ := hI
  have fp8 := p8
  have hF := hF.call fp8 (by decide)
  have q9 : 1 = M3 83 0 := sf1.symm.trans ((fp4.at (by decide)) : M3 83 0 = _).symm
  have q10 : 1 = M5 83 0 := q9.trans ((fp6.at (by decide)) : M5 83 0 = _).symm
  have q11 : 1 = M7 83 0 := q10.trans ((fp8.at (by decide)) : M7 83 0 = _).symm
  exact hret _ 30 _ ⟨hI, hW⟩ ⟨hF, (by omega), (cp_tr (cp_ws f1 (by decide) (by decide) (by decide) (by decide) (by decide) (by decide) : Cp 2 2 M M2) (cp_tr yp4 (cp_tr (cp_fr fp6 (by decide) (by decide) : Cp 84 84 M3 M5) (cp_fr fp8 (by decide) (by decide) : Cp 84 84 M5 M7))))⟩ dX1_take_30
set_option maxRecDepth 4000 in
theorem k_X9_copy_3_105 (l : Launch) (M : Mem) (hJ : Iw M) : CV l yX9_copy cX9_copy 2 none 1 (fun ad => [.ref (ad 3), .ref (ad 105)]) M (fun M' => Fr [105] M M' ∧ (∀ j : Nat, j < 10 → M' 105 j = M 3 j)) := by
  obtain ⟨hI, hW⟩ := hJ
  have hF : Fr [105] M M := Fr.rf
  refine en_v (by decide +kernel) (fun ad => by exact Nat.le_of_ble_eq_true rfl) (fun D cy ad A p e s m args below meth c Q F hret => ?_)
  refine z_eq (ls' := [(0, .ref (ad 3)), (1, .ref (ad 105))]) rfl rfl rfl ?_
  refine z_aload_n F dX9_copy_0 rfl (q := 0) rfl ?_
  refine z_iconst F dX9_copy_1 ?_
  refine z_aload_n F dX9_copy_2 rfl (q := 1) rfl ?_
  refine z_iconst F dX9_copy_3 ?_
  refine z_aload_n F dX9_copy_4 rfl (q := 0) rfl ?_
  refine z_alen (x := 10) F gs_3 rfl rfl dX9_copy_5 ?_
  refine z_aload_n F dX9_copy_6 rfl (q := 1) rfl ?_
  refine z_alen (x := 10) F gs_105 rfl rfl dX9_copy_7 ?_
  refine z_min F mm_X9_85 (Nat.le_of_ble_eq_true rfl) dX9_copy_8 (by omega) (by omega) (fun v1 ev1 => ?_)
  refine z_copyE F (by decide) ac_X9_91 hI gs_3 gs_105 (by omega) (by omega) (by omega) (by omega) (by omega) (by decide) (by decide) (fun i hi => rfl) (Nat.le_of_ble_eq_true rfl) dX9_copy_11 (fun M3 hI g2 kg2 => ?_)
  have hF := hF.call g2 (by decide)
  have hW : WFk M3 := hW.fr g2 (by decide) (by decide)
  exact hret _ 14 _ ⟨hI, hW⟩ ⟨hF, (cp_at (f := M3 105) (g := M 3) (h := M 105) 10 kg2 (by omega))⟩ dX9_copy_14
set_option maxRecDepth 4000 in
theorem k_X9_copy_4_106 (l : Launch) (M : Mem) (hJ : Iw M) : CV l yX9_copy cX9_copy 2 none 1 (fun ad => [.ref (ad 4), .ref (ad 106)]) M (fun M' => Fr [106] M M' ∧ (∀ j : Nat, j < 10 → M' 106 j = M 4 j)) := by
  obtain ⟨hI, hW⟩ := hJ
  have hF : Fr [106] M M := Fr.rf
  refine en_v (by decide +kernel) (fun ad => by exact Nat.le_of_ble_eq_true rfl) (fun D cy ad A p e s m args below meth c Q F hret => ?_)
  refine z_eq (ls' := [(0, .ref (ad 4)), (1, .ref (ad 106))]) rfl rfl rfl ?_
  refine z_aload_n F dX9_copy_0 rfl (q := 0) rfl ?_
  refine z_iconst F dX9_copy_1 ?_
  refine z_aload_n F dX9_copy_2 rfl (q := 1) rfl ?_
  refine z_iconst F dX9_copy_3 ?_
  refine z_aload_n F dX9_copy_4 rfl (q := 0) rfl ?_
  refine z_alen (x := 10) F gs_4 rfl rfl dX9_copy_5 ?_
  refine z_aload_n F dX9_copy_6 rfl (q := 1) rfl ?_
  refine z_alen (x := 10) F gs_106 rfl rfl dX9_copy_7 ?_
  refine z_min F mm_X9_85 (Nat.le_of_ble_eq_true rfl) dX9_copy_8 (by omega) (by omega) (fun v1 ev1 => ?_)
  refine z_copyE F (by decide) ac_X9_91 hI gs_4 gs_106 (by omega) (by omega) (by omega) (by omega) (by omega) (by decide) (by decide) (fun i hi => rfl) (Nat.le_of_ble_eq_true rfl) dX9_copy_11 (fun M3 hI g2 kg2 => ?_)
  have hF := hF.call g2 (by decide)
  have hW : WFk M3 := hW.fr g2 (by decide) (by decide)
  exact hret _ 14 _ ⟨hI, hW⟩ ⟨hF, (cp_at (f := M3 106) (g := M 4) (h := M 106) 10 kg2 (by omega))⟩ dX9_copy_14
set_option maxRecDepth 4000 in
theorem k_X9_copy_5_107 (l : Launch) (M : Mem) (hJ : Iw M) : CV l yX9_copy cX9_copy 2 none 1 (fun ad => [.ref (ad 5), .ref (ad 107)]) M (fun M' => Fr [107] M M' ∧ (∀ j : Nat, j < 100 → M' 107 j = M 5 j)) := by
  obtain ⟨hI, hW⟩ := hJ
  have hF : Fr [107] M M := Fr.rf
  refine en_v (by decide +kernel) (fun ad => by exact Nat.le_of_ble_eq_true rfl) (fun D cy ad A p e s m args below meth c Q F hret => ?_)
  refine z_eq (ls' := [(0, .ref (ad 5)), (1, .ref (ad 107))]) rfl rfl rfl ?_
  refine z_aload_n F dX9_copy_0 rfl (q := 0) rfl ?_
  refine z_iconst F dX9_copy_1 ?_
  refine z_aload_n F dX9_copy_2 rfl (q := 1) rfl ?_
  refine z_iconst F dX9_copy_3 ?_
  refine z_aload_n F dX9_copy_4 rfl (q := 0) rfl ?_
  refine z_alen (x := 100) F gs_5 rfl rfl dX9_copy_5 ?_
  refine z_aload_n F dX9_copy_6 rfl (q := 1) rfl ?_
  refine z_alen (x := 100) F gs_107 rfl rfl dX9_copy_7 ?_
  refine z_min F mm_X9_85 (Nat.le_of_ble_eq_true rfl) dX9_copy_8 (by omega) (by omega) (fun v1 ev1 => ?_)
  refine z_copyE F (by decide) ac_X9_91 hI gs_5 gs_107 (by omega) (by omega) (by omega) (by omega) (by omega) (by decide) (by decide) (fun i hi => rfl) (Nat.le_of_ble_eq_true rfl) dX9_copy_11 (fun M3 hI g2 kg2 => ?_)
  have hF := hF.call g2 (by decide)
  have hW : WFk M3 := hW.fr g2 (by decide) (by decide)
  exact hret _ 14 _ ⟨hI, hW⟩ ⟨hF, (cp_at (f := M3 107) (g := M 5) (h := M 107) 100 kg2 (by omega))⟩ dX9_copy_14
