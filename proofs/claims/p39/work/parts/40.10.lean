def Fx0 (M M' : Mem) : Prop := M' 18 1 = 0 → M 18 1 = 0
def Ge0 (M : Mem) (z : Int) : Prop := M 18 1 = 0 → 0 ≤ z
def Lt0 (M : Mem) (a b : Int) : Prop := M 18 1 = 0 → a < b
theorem Fx0.rf (M : Mem) : Fx0 M M := fun h => h
theorem Fx0.eq {M M' : Mem} (h : M' 18 1 = M 18 1) : Fx0 M M' := fun g => h.symm.trans g
theorem Fx0.tr {M M1 M2 : Mem} (h : Fx0 M M1) (g : Fx0 M1 M2) : Fx0 M M2 := fun q => h (g q)
theorem dX6_readThing_0 : decode cX6_readThing 0 = .ok (.aload_n 0, 1) := by decide +kernel
theorem dX6_readThing_1 : decode cX6_readThing 1 = .ok (.aload_n 0, 1) := by decide +kernel
theorem dX6_readThing_10 : decode cX6_readThing 10 = .ok (.invokevirtual 166, 3) := by decide +kernel
theorem dX6_readThing_100 : decode cX6_readThing 100 = .ok (.aload_n 0, 1) := by decide +kernel
theorem dX6_readThing_101 : decode cX6_readThing 101 = .ok (.getfield 36, 3) := by decide +kernel
theorem dX6_readThing_104 : decode cX6_readThing 104 = .ok (.ifCond .ne 95, 3) := by decide +kernel
theorem dX6_readThing_107 : decode cX6_readThing 107 = .ok (.aload_n 0, 1) := by decide +kernel
theorem dX6_readThing_108 : decode cX6_readThing 108 = .ok (.getfield 12, 3) := by decide +kernel
theorem dX6_readThing_111 : decode cX6_readThing 111 = .ok (.getfield 181, 3) := by decide +kernel
theorem dX6_readThing_114 : decode cX6_readThing 114 = .ok (.istore 6, 2) := by decide +kernel
theorem dX6_readThing_116 : decode cX6_readThing 116 = .ok (.aload_n 0, 1) := by decide +kernel
theorem dX6_readThing_117 : decode cX6_readThing 117 = .ok (.getfield 12, 3) := by decide +kernel
theorem dX6_readThing_120 : decode cX6_readThing 120 = .ok (.getfield 195, 3) := by decide +kernel
theorem dX6_readThing_123 : decode cX6_readThing 123 = .ok (.iload 6, 2) := by decide +kernel
theorem dX6_readThing_125 : decode cX6_readThing 125 = .ok (.iload_n 1, 1) := by decide +kernel
theorem dX6_readThing_126 : decode cX6_readThing 126 = .ok (.iastore, 1) := by decide +kernel
theorem dX6_readThing_127 : decode cX6_readThing 127 = .ok (.aload_n 0, 1) := by decide +kernel
theorem dX6_readThing_128 : decode cX6_readThing 128 = .ok (.getfield 12, 3) := by decide +kernel
theorem dX6_readThing_13 : decode cX6_readThing 13 = .ok (.aload_n 0, 1) := by decide +kernel
theorem dX6_readThing_131 : decode cX6_readThing 131 = .ok (.getfield 198, 3) := by decide +kernel
theorem dX6_readThing_134 : decode cX6_readThing 134 = .ok (.iload 6, 2) := by decide +kernel
theorem dX6_readThing_136 : decode cX6_readThing 136 = .ok (.iload_n 2, 1) := by decide +kernel
theorem dX6_readThing_137 : decode cX6_readThing 137 = .ok (.iastore, 1) := by decide +kernel
theorem dX6_readThing_138 : decode cX6_readThing 138 = .ok (.aload_n 0, 1) := by decide +kernel
theorem dX6_readThing_139 : decode cX6_readThing 139 = .ok (.getfield 12, 3) := by decide +kernel
theorem dX6_readThing_14 : decode cX6_readThing 14 = .ok (.iconst 0, 1) := by decide +kernel
theorem dX6_readThing_142 : decode cX6_readThing 142 = .ok (.getfield 201, 3) := by decide +kernel
theorem dX6_readThing_145 : decode cX6_readThing 145 = .ok (.iload 6, 2) := by decide +kernel
theorem dX6_readThing_147 : decode cX6_readThing 147 = .ok (.iload_n 3, 1) := by decide +kernel
theorem dX6_readThing_148 : decode cX6_readThing 148 = .ok (.iastore, 1) := by decide +kernel
theorem dX6_readThing_149 : decode cX6_readThing 149 = .ok (.aload_n 0, 1) := by decide +kernel
theorem dX6_readThing_15 : decode cX6_readThing 15 = .ok (.aload_n 0, 1) := by decide +kernel
theorem dX6_readThing_150 : decode cX6_readThing 150 = .ok (.getfield 12, 3) := by decide +kernel
theorem dX6_readThing_153 : decode cX6_readThing 153 = .ok (.getfield 203, 3) := by decide +kernel
theorem dX6_readThing_156 : decode cX6_readThing 156 = .ok (.iload 6, 2) := by decide +kernel
theorem dX6_readThing_158 : decode cX6_readThing 158 = .ok (.iload 4, 2) := by decide +kernel
theorem dX6_readThing_16 : decode cX6_readThing 16 = .ok (.getfield 12, 3) := by decide +kernel
theorem dX6_readThing_160 : decode cX6_readThing 160 = .ok (.iastore, 1) := by decide +kernel
theorem dX6_readThing_161 : decode cX6_readThing 161 = .ok (.aload_n 0, 1) := by decide +kernel
theorem dX6_readThing_162 : decode cX6_readThing 162 = .ok (.getfield 12, 3) := by decide +kernel
theorem dX6_readThing_165 : decode cX6_readThing 165 = .ok (.dup, 1) := by decide +kernel
theorem dX6_readThing_166 : decode cX6_readThing 166 = .ok (.getfield 205, 3) := by decide +kernel
theorem dX6_readThing_169 : decode cX6_readThing 169 = .ok (.iload 5, 2) := by decide +kernel
theorem dX6_readThing_171 : decode cX6_readThing 171 = .ok (.ifCond .eq 10, 3) := by decide +kernel
theorem dX6_readThing_174 : decode cX6_readThing 174 = .ok (.iconst 1, 1) := by decide +kernel
theorem dX6_readThing_175 : decode cX6_readThing 175 = .ok (.iload 6, 2) := by decide +kernel
theorem dX6_readThing_177 : decode cX6_readThing 177 = .ok (.ishl, 1) := by decide +kernel
theorem dX6_readThing_178 : decode cX6_readThing 178 = .ok (.goto 4, 3) := by decide +kernel
theorem dX6_readThing_181 : decode cX6_readThing 181 = .ok (.iconst 0, 1) := by decide +kernel
theorem dX6_readThing_182 : decode cX6_readThing 182 = .ok (.ior, 1) := by decide +kernel
theorem dX6_readThing_183 : decode cX6_readThing 183 = .ok (.putfield 205, 3) := by decide +kernel
theorem dX6_readThing_186 : decode cX6_readThing 186 = .ok (.aload_n 0, 1) := by decide +kernel
theorem dX6_readThing_187 : decode cX6_readThing 187 = .ok (.getfield 12, 3) := by decide +kernel
theorem dX6_readThing_19 : decode cX6_readThing 19 = .ok (.getfield 170, 3) := by decide +kernel
theorem dX6_readThing_190 : decode cX6_readThing 190 = .ok (.dup, 1) := by decide +kernel
theorem dX6_readThing_191 : decode cX6_readThing 191 = .ok (.getfield 181, 3) := by decide +kernel
theorem dX6_readThing_194 : decode cX6_readThing 194 = .ok (.iconst 1, 1) := by decide +kernel
theorem dX6_readThing_195 : decode cX6_readThing 195 = .ok (.iadd, 1) := by decide +kernel
theorem dX6_readThing_196 : decode cX6_readThing 196 = .ok (.putfield 181, 3) := by decide +kernel
theorem dX6_readThing_199 : decode cX6_readThing 199 = .ok (.return_, 1) := by decide +kernel
theorem dX6_readThing_2 : decode cX6_readThing 2 = .ok (.getfield 12, 3) := by decide +kernel
theorem dX6_readThing_22 : decode cX6_readThing 22 = .ok (.iconst 1, 1) := by decide +kernel
theorem dX6_readThing_23 : decode cX6_readThing 23 = .ok (.isub, 1) := by decide +kernel
theorem dX6_readThing_24 : decode cX6_readThing 24 = .ok (.aload_n 0, 1) := by decide +kernel
theorem dX6_readThing_25 : decode cX6_readThing 25 = .ok (.getfield 12, 3) := by decide +kernel
theorem dX6_readThing_28 : decode cX6_readThing 28 = .ok (.invokevirtual 184, 3) := by decide +kernel
theorem dX6_readThing_31 : decode cX6_readThing 31 = .ok (.invokevirtual 97, 3) := by decide +kernel
theorem dX6_readThing_34 : decode cX6_readThing 34 = .ok (.istore_n 1, 1) := by decide +kernel
theorem dX6_readThing_35 : decode cX6_readThing 35 = .ok (.aload_n 0, 1) := by decide +kernel
theorem dX6_readThing_36 : decode cX6_readThing 36 = .ok (.ldc 187, 2) := by decide +kernel
theorem dX6_readThing_38 : decode cX6_readThing 38 = .ok (.invokevirtual 106, 3) := by decide +kernel
theorem dX6_readThing_41 : decode cX6_readThing 41 = .ok (.aload_n 0, 1) := by decide +kernel
theorem dX6_readThing_42 : decode cX6_readThing 42 = .ok (.iconst 0, 1) := by decide +kernel
theorem dX6_readThing_43 : decode cX6_readThing 43 = .ok (.bipush 99, 2) := by decide +kernel
theorem dX6_readThing_45 : decode cX6_readThing 45 = .ok (.invokevirtual 110, 3) := by decide +kernel
theorem dX6_readThing_48 : decode cX6_readThing 48 = .ok (.istore_n 2, 1) := by decide +kernel
theorem dX6_readThing_49 : decode cX6_readThing 49 = .ok (.aload_n 0, 1) := by decide +kernel
theorem dX6_readThing_5 : decode cX6_readThing 5 = .ok (.getfield 181, 3) := by decide +kernel
theorem dX6_readThing_50 : decode cX6_readThing 50 = .ok (.ldc 189, 2) := by decide +kernel
theorem dX6_readThing_52 : decode cX6_readThing 52 = .ok (.invokevirtual 144, 3) := by decide +kernel
theorem dX6_readThing_55 : decode cX6_readThing 55 = .ok (.ifCond .eq 13, 3) := by decide +kernel
theorem dX6_readThing_58 : decode cX6_readThing 58 = .ok (.aload_n 0, 1) := by decide +kernel
theorem dX6_readThing_59 : decode cX6_readThing 59 = .ok (.iconst 0, 1) := by decide +kernel
theorem dX6_readThing_60 : decode cX6_readThing 60 = .ok (.bipush 9, 2) := by decide +kernel
theorem dX6_readThing_62 : decode cX6_readThing 62 = .ok (.invokevirtual 110, 3) := by decide +kernel
theorem dX6_readThing_65 : decode cX6_readThing 65 = .ok (.goto 4, 3) := by decide +kernel
theorem dX6_readThing_68 : decode cX6_readThing 68 = .ok (.iconst 0, 1) := by decide +kernel
theorem dX6_readThing_69 : decode cX6_readThing 69 = .ok (.istore_n 3, 1) := by decide +kernel
theorem dX6_readThing_70 : decode cX6_readThing 70 = .ok (.aload_n 0, 1) := by decide +kernel
theorem dX6_readThing_71 : decode cX6_readThing 71 = .ok (.ldc 191, 2) := by decide +kernel
theorem dX6_readThing_73 : decode cX6_readThing 73 = .ok (.invokevirtual 144, 3) := by decide +kernel
theorem dX6_readThing_76 : decode cX6_readThing 76 = .ok (.ifCond .eq 13, 3) := by decide +kernel
theorem dX6_readThing_79 : decode cX6_readThing 79 = .ok (.aload_n 0, 1) := by decide +kernel
theorem dX6_readThing_8 : decode cX6_readThing 8 = .ok (.bipush 8, 2) := by decide +kernel
theorem dX6_readThing_80 : decode cX6_readThing 80 = .ok (.iconst 1, 1) := by decide +kernel
theorem dX6_readThing_81 : decode cX6_readThing 81 = .ok (.bipush 9, 2) := by decide +kernel
theorem dX6_readThing_83 : decode cX6_readThing 83 = .ok (.invokevirtual 110, 3) := by decide +kernel
theorem dX6_readThing_86 : decode cX6_readThing 86 = .ok (.goto 4, 3) := by decide +kernel
theorem dX6_readThing_89 : decode cX6_readThing 89 = .ok (.iconst 1, 1) := by decide +kernel
theorem dX6_readThing_90 : decode cX6_readThing 90 = .ok (.istore 4, 2) := by decide +kernel
theorem dX6_readThing_92 : decode cX6_readThing 92 = .ok (.aload_n 0, 1) := by decide +kernel
theorem dX6_readThing_93 : decode cX6_readThing 93 = .ok (.ldc 193, 2) := by decide +kernel
theorem dX6_readThing_95 : decode cX6_readThing 95 = .ok (.invokevirtual 144, 3) := by decide +kernel
theorem dX6_readThing_98 : decode cX6_readThing 98 = .ok (.istore 5, 2) := by decide +kernel
theorem dX9_join_0 : decode cX9_join 0 = .ok (.aload_n 0, 1) := by decide +kernel
theorem dX9_join_1 : decode cX9_join 1 = .ok (.getfield 9, 3) := by decide +kernel
theorem dX9_join_10 : decode cX9_join 10 = .ok (.ior, 1) := by decide +kernel
theorem dX9_join_11 : decode cX9_join 11 = .ok (.iastore, 1) := by decide +kernel
theorem dX9_join_12 : decode cX9_join 12 = .ok (.aload_n 0, 1) := by decide +kernel
theorem dX9_join_13 : decode cX9_join 13 = .ok (.getfield 9, 3) := by decide +kernel
theorem dX9_join_16 : decode cX9_join 16 = .ok (.iload_n 2, 1) := by decide +kernel
theorem dX9_join_17 : decode cX9_join 17 = .ok (.dup2, 1) := by decide +kernel
theorem dX9_join_18 : decode cX9_join 18 = .ok (.iaload, 1) := by decide +kernel
theorem dX9_join_19 : decode cX9_join 19 = .ok (.iconst 1, 1) := by decide +kernel
theorem dX9_join_20 : decode cX9_join 20 = .ok (.iload_n 1, 1) := by decide +kernel
theorem dX9_join_21 : decode cX9_join 21 = .ok (.ishl, 1) := by decide +kernel
theorem dX9_join_22 : decode cX9_join 22 = .ok (.ior, 1) := by decide +kernel
theorem dX9_join_23 : decode cX9_join 23 = .ok (.iastore, 1) := by decide +kernel
theorem dX9_join_24 : decode cX9_join 24 = .ok (.iload_n 3, 1) := by decide +kernel
theorem dX9_join_25 : decode cX9_join 25 = .ok (.ifCond .eq 27, 3) := by decide +kernel
theorem dX9_join_28 : decode cX9_join 28 = .ok (.aload_n 0, 1) := by decide +kernel
theorem dX9_join_29 : decode cX9_join 29 = .ok (.getfield 15, 3) := by decide +kernel
theorem dX9_join_32 : decode cX9_join 32 = .ok (.iload_n 1, 1) := by decide +kernel
theorem dX9_join_33 : decode cX9_join 33 = .ok (.dup2, 1) := by decide +kernel
theorem dX9_join_34 : decode cX9_join 34 = .ok (.iaload, 1) := by decide +kernel
theorem dX9_join_35 : decode cX9_join 35 = .ok (.iconst 1, 1) := by decide +kernel
theorem dX9_join_36 : decode cX9_join 36 = .ok (.iload_n 2, 1) := by decide +kernel
theorem dX9_join_37 : decode cX9_join 37 = .ok (.ishl, 1) := by decide +kernel
theorem dX9_join_38 : decode cX9_join 38 = .ok (.ior, 1) := by decide +kernel
theorem dX9_join_39 : decode cX9_join 39 = .ok (.iastore, 1) := by decide +kernel
theorem dX9_join_4 : decode cX9_join 4 = .ok (.iload_n 1, 1) := by decide +kernel
theorem dX9_join_40 : decode cX9_join 40 = .ok (.aload_n 0, 1) := by decide +kernel
theorem dX9_join_41 : decode cX9_join 41 = .ok (.getfield 15, 3) := by decide +kernel
theorem dX9_join_44 : decode cX9_join 44 = .ok (.iload_n 2, 1) := by decide +kernel
theorem dX9_join_45 : decode cX9_join 45 = .ok (.dup2, 1) := by decide +kernel
theorem dX9_join_46 : decode cX9_join 46 = .ok (.iaload, 1) := by decide +kernel
theorem dX9_join_47 : decode cX9_join 47 = .ok (.iconst 1, 1) := by decide +kernel
theorem dX9_join_48 : decode cX9_join 48 = .ok (.iload_n 1, 1) := by decide +kernel
theorem dX9_join_49 : decode cX9_join 49 = .ok (.ishl, 1) := by decide +kernel
theorem dX9_join_5 : decode cX9_join 5 = .ok (.dup2, 1) := by decide +kernel
theorem dX9_join_50 : decode cX9_join 50 = .ok (.ior, 1) := by decide +kernel
theorem dX9_join_51 : decode cX9_join 51 = .ok (.iastore, 1) := by decide +kernel
theorem dX9_join_52 : decode cX9_join 52 = .ok (.aload_n 0, 1) := by decide +kernel
theorem dX9_join_53 : decode cX9_join 53 = .ok (.dup, 1) := by decide +kernel
theorem dX9_join_54 : decode cX9_join 54 = .ok (.getfield 59, 3) := by decide +kernel
theorem dX9_join_57 : decode cX9_join 57 = .ok (.iconst 1, 1) := by decide +kernel
theorem dX9_join_58 : decode cX9_join 58 = .ok (.iadd, 1) := by decide +kernel
theorem dX9_join_59 : decode cX9_join 59 = .ok (.putfield 59, 3) := by decide +kernel
theorem dX9_join_6 : decode cX9_join 6 = .ok (.iaload, 1) := by decide +kernel
theorem dX9_join_62 : decode cX9_join 62 = .ok (.return_, 1) := by decide +kernel
theorem dX9_join_7 : decode cX9_join 7 = .ok (.iconst 1, 1) := by decide +kernel
theorem dX9_join_8 : decode cX9_join 8 = .ok (.iload_n 2, 1) := by decide +kernel
theorem dX9_join_9 : decode cX9_join 9 = .ok (.ishl, 1) := by decide +kernel
set_option maxHeartbeats 4000000 in
set_option maxRecDepth 4000 in
theorem kp_X6_readThing_18 (l : Launch) (M : Mem) (hJ : Iw M) (hp0 : M 18 6 ≤ M 18 5 ∧ M 18 5 ≤ M 18 4) : CV l yX6_readThing cX6_readThing 7 none 9 (fun ad => [.ref (ad 18)]) M (fun M' => Fr [18, 19, 23, 24, 25, 26] M M' ∧ (M' 18 4 = M 18 4 ∧ M' 18 6 ≤ M' 18 5 ∧ M' 18 5 ≤ M' 18 4)) := by
  obtain ⟨hI, hW⟩ := hJ
  have hF : Fr [18, 19, 23, 24, 25, 26] M M := Fr.rf
  refine en_v (by decide +kernel) (fun ad => by exact Nat.le_of_ble_eq_true rfl) (fun D cy ad A p e s m args below meth c Q F hret => ?_)
  refine z_eq (ls' := [(0, .ref (ad 18))]) rfl rfl rfl ?_
  refine z_aload_n F dX6_readThing_0 rfl (q := 0) rfl ?_
  refine z_aload_n F dX6_readThing_1 rfl (q := 0) rfl ?_
  refine rf_X6_12 F gs_18 rfl dX6_readThing_2 ?_
  refine gf_X6_181 F hI gs_19 rfl bd_19_3 dX6_readThing_5 (fun v1 ev1 av1 bv1 => ?_)
  refine z_bipush F dX6_readThing_8 (by decide +kernel) ?_
  refine zv_v (rest := []) F (kp_X6_beginLine_18 l M ⟨hI, hW⟩ v1 (by omega) (by omega) 8 (by omega) (by omega) (by omega)) cs_X6_166 (T := TX6) (N := 9) (ci := 6) rfl gs_18 (by decide) (by decide) rfl rfl rfl (Nat.le_of_ble_eq_true rfl) dX6_readThing_10 (fun M2 hI p3 => ?_)
  obtain ⟨hI, hW⟩ := hI
  obtain ⟨fp3, xp3⟩ := p3
  have hF := hF.call fp3 (by decide)
  have tM2_19_3 : M2 19 3 = M 19 3 := fp3.at (by decide)
  obtain ⟨qp3_0, qp3_1, qp3_2, qp3_3, qp3_4⟩ := xp3
  have oqp3_3 : Fx0 M M2 := qp3_3
  clear qp3_3
  have oqp3_4 : Lt0 M2 v1 8 := by unfold Lt0; omega
  clear qp3_4
  refine z_aload_n F dX6_readThing_13 rfl (q := 0) rfl ?_
  refine z_iconst F dX6_readThing_14 ?_
  refine z_aload_n F dX6_readThing_15 rfl (q := 0) rfl ?_
  refine rf_X6_12 F gs_18 rfl dX6_readThing_16 ?_
  refine gf_X6_170 F hI gs_19 rfl bd_19_1 dX6_readThing_19 (fun v4 ev4 av4 bv4 => ?_)
  refine z_iconst F dX6_readThing_22 ?_
  refine z_isub F dX6_readThing_23 ?_
  refine z_aload_n F dX6_readThing_24 rfl (q := 0) rfl ?_
  refine rf_X6_12 F gs_18 rfl dX6_readThing_25 ?_
  refine zv_i (rest := [ii (v4 - 1), ii 0, .ref (ad 18)]) F (k_X9_homes_19 l M2 ⟨hI, hW⟩) cs_X6_184 (T := TX9) (N := 18) (ci := 9) rfl gs_19 (by decide) (by decide) rfl rfl rfl (Nat.le_of_ble_eq_true rfl) dX6_readThing_28 (fun v5 M6 rv5 hI p7 => ?_)
  obtain ⟨hI, hW⟩ := hI
  obtain ⟨⟨av5, bv5⟩, rfl⟩ := p7
  refine zv_i (rest := []) F (kp_X6_takeNumberBut_18 l M2 ⟨hI, hW⟩ 0 (by omega) (by omega) (v4 - 1) (by omega) (by omega) v5 (by omega) (by omega) (by omega)) cs_X6_97 (T := TX6) (N := 9) (ci := 6) rfl gs_18 (by decide) (by decide) rfl rfl rfl (Nat.le_of_ble_eq_true rfl) dX6_readThing_31 (fun v8 M9 rv8 hI p10 => ?_)
  obtain ⟨hI, hW⟩ := hI
  obtain ⟨⟨av8, bv8⟩, fp10, xp10⟩ := p10
  have hF := hF.call fp10 (by decide)
  have tM9_19_3 : M9 19 3 = M2 19 3 := fp10.at (by decide)
  have hkv8 : -1 ≤ v8 ∧ v8 ≤ 9 := by omega
  obtain ⟨qp10_0, qp10_1, qp10_2, qp10_3, qp10_4⟩ := xp10
  have oqp10_3 : Fx0 M2 M9 := qp10_3
  clear qp10_3
  have oqp10_4 : Ge0 M9 v8 := by unfold Ge0; omega
  clear qp10_4
  refine z_istore_n F dX6_readThing_34 rfl (by decide) (ls' := [(1, ii v8), (0, .ref (ad 18))]) rfl ?_
  refine z_aload_n F dX6_readThing_35 rfl (q := 1) rfl ?_
  refine z_ldcS (j := 6) F dX6_readThing_36 rfl rfl rfl ?_
  refine z_eq (st' := [.ref (ad 1006), .ref (ad 18)]) rfl rfl rfl ?_
  refine zv_v (rest := []) F (kp_X6_needWord_18_1006 l M9 ⟨hI, hW⟩ (by omega)) cs_X6_106 (T := TX6) (N := 9) (ci := 6) rfl gs_18 (by decide) (by decide) rfl rfl rfl (Nat.le_of_ble_eq_true rfl) dX6_readThing_38 (fun M11 hI p12 => ?_)
  obtain ⟨hI, hW⟩ := hI
  obtain ⟨fp12, xp12⟩ := p12
  have hF := hF.call fp12 (by decide)
  have tM11_19_3 : M11 19 3 = M9 19 3 := fp12.at (by decide)
  obtain ⟨qp12_0, qp12_1, qp12_2, qp12_3⟩ := xp12
  have oqp12_3 : Fx0 M9 M11 := qp12_3
  clear qp12_3
  refine z_aload_n F dX6_readThing_41 rfl (q := 1) rfl ?_
  refine z_iconst F dX6_readThing_42 ?_
  refine z_bipush F dX6_readThing_43 (by decide +kernel) ?_
  refine zv_i (rest := []) F (kp_X6_takeNumber_18 l M11 ⟨hI, hW⟩ 0 (by omega) (by omega) 99 (by omega) (by omega) (by omega)) cs_X6_110 (T := TX6) (N := 9) (ci := 6) rfl gs_18 (by decide) (by decide) rfl rfl rfl (Nat.le_of_ble_eq_true rfl) dX6_readThing_45 (fun v13 M14 rv13 hI p15 => ?_)
  obtain ⟨hI, hW⟩ := hI
  obtain ⟨⟨av13, bv13⟩, fp15, xp15⟩ := p15
  have hF := hF.call fp15 (by decide)
  have tM14_19_3 : M14 19 3 = M11 19 3 := fp15.at (by decide)
  have hkv13 : -1 ≤ v13 ∧ v13 ≤ 99 := by omega
  obtain ⟨qp15_0, qp15_1, qp15_2, qp15_3, qp15_4⟩ := xp15
  have oqp15_3 : Fx0 M11 M14 := qp15_3
  clear qp15_3
  have oqp15_4 : Ge0 M14 v13 := by unfold Ge0; omega
  clear qp15_4
  refine z_istore_n F dX6_readThing_48 rfl (by decide) (ls' := [(2, ii v13), (1, ii v8), (0, .ref (ad 18))]) rfl ?_
  have cut70 : ∀ (y17 : Int) (M16 : Mem), Inv M16 → WFk M16 → Fr [18, 19, 23, 24, 25, 26] M M16 → (-1) ≤ y17 → y17 ≤ 9 → (M16 18 6 ≤ M16 18 5 ∧ M16 18 5 ≤ M16 18 4) → (M16 18 4 = M 18 4) → (M16 19 3 = M 19 3) → (Fx0 M14 M16) → Z D cy ad p l e (RMh 9) s m args below meth c A 7 0 0 Q 70 [(0, .ref (ad 18)), (1, ii v8), (2, ii v13), (3, ii y17)] [] M16 := by
    intro y17 M16 hI hW hF ay17 by17 j70_0 j70_1 j70_2 j70_3
    have cut92 : ∀ (y19 : Int) (M18 : Mem), Inv M18 → WFk M18 → Fr [18, 19, 23, 24, 25, 26] M M18 → (-1) ≤ y19 → y19 ≤ 9 → (M18 18 6 ≤ M18 18 5 ∧ M18 18 5 ≤ M18 18 4) → (M18 18 4 = M 18 4) → (M18 19 3 = M 19 3) → (Fx0 M16 M18) → Z D cy ad p l e (RMh 9) s m args below meth c A 7 0 0 Q 92 [(0, .ref (ad 18)), (1, ii v8), (2, ii v13), (3, ii y17), (4, ii y19)] [] M18 := by
      intro y19 M18 hI hW hF ay19 by19 j92_0 j92_1 j92_2 j92_3
      refine z_aload_n F dX6_readThing_92 rfl (q := 0) rfl ?_
      refine z_ldcS (j := 9) F dX6_readThing_93 rfl rfl rfl ?_
      refine z_eq (st' := [.ref (ad 1009), .ref (ad 18)]) rfl rfl rfl ?_
      refine zv_i (rest := []) F (kp_X6_takeWord_18_1009 l M18 ⟨hI, hW⟩ (by omega)) cs_X6_144 (T := TX6) (N := 9) (ci := 6) rfl gs_18 (by decide) (by decide) rfl rfl rfl (Nat.le_of_ble_eq_true rfl) dX6_readThing_95 (fun v20 M21 rv20 hI p22 => ?_)
      obtain ⟨hI, hW⟩ := hI
      obtain ⟨⟨av20, bv20⟩, fp22, xp22⟩ := p22
      have hF := hF.call fp22 (by decide)
      have tM21_19_3 : M21 19 3 = M18 19 3 := fp22.at (by decide)
      obtain ⟨qp22_0, qp22_1, qp22_2, qp22_3⟩ := xp22
      refine z_istore F dX6_readThing_98 (by decide) (ls' := [(5, ii v20), (0, .ref (ad 18)), (1, ii v8), (2, ii v13), (3, ii y17), (4, ii y19)]) rfl ?_
      refine z_aload_n F dX6_readThing_100 rfl (q := 1) rfl ?_
      refine gf_X6_36 F hI gs_18 rfl bd_18_1 dX6_readThing_101 (fun v23 ev23 av23 bv23 => ?_)
      refine z_if_ne (tgt := 199) F dX6_readThing_104 (by decide +kernel) (by omega) (fun c24 => ?_) (fun c24 => ?_)
      · exact hret _ 199 _ ⟨hI, hW⟩ ⟨hF, (by omega)⟩ dX6_readThing_199
      · refine z_aload_n F dX6_readThing_107 rfl (q := 1) rfl ?_
        refine rf_X6_12 F gs_18 rfl dX6_readThing_108 ?_
        refine gf_X6_181 F hI gs_19 rfl bd_19_3 dX6_readThing_111 (fun v25 ev25 av25 bv25 => ?_)
        have z26 : M21 18 1 = 0 := by omega
        have z27 : M18 18 1 = 0 := by omega
        have z28 : M16 18 1 = 0 := j92_3 z27
        have z29 : M14 18 1 = 0 := j70_3 z28
        have goqp15_4 := oqp15_4 z29
        have goqp15_4 := goqp15_4
        have z30 : M11 18 1 = 0 := oqp15_3 z29
        have z31 : M9 18 1 = 0 := oqp12_3 z30
        have goqp10_4 := oqp10_4 z31
        have goqp10_4 := goqp10_4
        have z32 : M2 18 1 = 0 := oqp10_3 z31
        have goqp3_4 := oqp3_4 z32
        have goqp3_4 := goqp3_4
        have z33 : M 18 1 = 0 := oqp3_3 z32
        have k34 : 0 ≤ v25 ∧ v25 ≤ 7 := by omega
        refine z_istore F dX6_readThing_114 (by decide) (ls' := [(6, ii v25), (5, ii v20), (0, .ref (ad 18)), (1, ii v8), (2, ii v13), (3, ii y17), (4, ii y19)]) rfl ?_
        refine z_aload_n F dX6_readThing_116 rfl (q := 2) rfl ?_
        refine rf_X6_12 F gs_18 rfl dX6_readThing_117 ?_
        refine rf_X6_195 F gs_19 rfl dX6_readThing_120 ?_
        refine z_iload F dX6_readThing_123 (q := 0) rfl ?_
        refine z_iload_n F dX6_readThing_125 rfl (q := 3) rfl ?_
        have k35 : 0 ≤ v8 ∧ v8 ≤ 9 := by omega
        refine z_iast F hI gs_23 (by omega) (by omega) (by decide) bd_23 dX6_readThing_126 (by omega) (by omega) (fun M37 hI sf36 f36 => ?_)
        have tM37_18_1 : M37 18 1 = M21 18 1 := f36 18 1 (fun q => absurd q.1 (by decide))
        have tM37_18_4 : M37 18 4 = M21 18 4 := f36 18 4 (fun q => absurd q.1 (by decide))
        have tM37_18_5 : M37 18 5 = M21 18 5 := f36 18 5 (fun q => absurd q.1 (by decide))
        have tM37_18_6 : M37 18 6 = M21 18 6 := f36 18 6 (fun q => absurd q.1 (by decide))
        have tM37_19_3 : M37 19 3 = M21 19 3 := f36 19 3 (fun q => absurd q.1 (by decide))
        have hF := hF.wr f36 (by decide) (by decide)
        have hW : WFk M37 := hW.site f36 (by decide)
        refine z_aload_n F dX6_readThing_127 rfl (q := 2) rfl ?_
        refine rf_X6_12 F gs_18 rfl dX6_readThing_128 ?_
        refine rf_X6_198 F gs_19 rfl dX6_readThing_131 ?_
        refine z_iload F dX6_readThing_134 (q := 0) rfl ?_
        refine z_iload_n F dX6_readThing_136 rfl (q := 4) rfl ?_
        refine z_iast F hI gs_24 (by omega) (by omega) (by decide) bd_24 dX6_readThing_137 (by omega) (by omega) (fun M39 hI sf38 f38 => ?_)
        have tM39_18_1 : M39 18 1 = M37 18 1 := f38 18 1 (fun q => absurd q.1 (by decide))
        have tM39_18_4 : M39 18 4 = M37 18 4 := f38 18 4 (fun q => absurd q.1 (by decide))
        have tM39_18_5 : M39 18 5 = M37 18 5 := f38 18 5 (fun q => absurd q.1 (by decide))
        have tM39_18_6 : M39 18 6 = M37 18 6 := f38 18 6 (fun q => absurd q.1 (by decide))
        have tM39_19_3 : M39 19 3 = M37 19 3 := f38 19 3 (fun q => absurd q.1 (by decide))
        have hF := hF.wr f38 (by decide) (by decide)
        have hW : WFk M39 := hW.site f38 (by decide)
        refine z_aload_n F dX6_readThing_138 rfl (q := 2) rfl ?_
        refine rf_X6_12 F gs_18 rfl dX6_readThing_139 ?_
        refine rf_X6_201 F gs_19 rfl dX6_readThing_142 ?_
        refine z_iload F dX6_readThing_145 (q := 0) rfl ?_
        refine z_iload_n F dX6_readThing_147 rfl (q := 5) rfl ?_
        refine z_iast F hI gs_25 (by omega) (by omega) (by decide) bd_25 dX6_readThing_148 (by omega) (by omega) (fun M41 hI sf40 f40 => ?_)
        have tM41_18_1 : M41 18 1 = M39 18 1 := f40 18 1 (fun q => absurd q.1 (by decide))
        have tM41_18_4 : M41 18 4 = M39 18 4 := f40 18 4 (fun q => absurd q.1 (by decide))
        have tM41_18_5 : M41 18 5 = M39 18 5 := f40 18 5 (fun q => absurd q.1 (by decide))
        have tM41_18_6 : M41 18 6 = M39 18 6 := f40 18 6 (fun q => absurd q.1 (by decide))
        have tM41_19_3 : M41 19 3 = M39 19 3 := f40 19 3 (fun q => absurd q.1 (by decide))
        have hF := hF.wr f40 (by decide) (by decide)
        have hW : WFk M41 := hW.site f40 (by decide)
        refine z_aload_n F dX6_readThing_149 rfl (q := 2) rfl ?_
        refine rf_X6_12 F gs_18 rfl dX6_readThing_150 ?_
        refine rf_X6_203 F gs_19 rfl dX6_readThing_153 ?_
        refine z_iload F dX6_readThing_156 (q := 0) rfl ?_
        refine z_iload F dX6_readThing_158 (q := 6) rfl ?_
        refine z_iast F hI gs_26 (by omega) (by omega) (by decide) bd_26 dX6_readThing_160 (by omega) (by omega) (fun M43 hI sf42 f42 => ?_)
        have tM43_18_1 : M43 18 1 = M41 18 1 := f42 18 1 (fun q => absurd q.1 (by decide))
        have tM43_18_4 : M43 18 4 = M41 18 4 := f42 18 4 (fun q => absurd q.1 (by decide))
        have tM43_18_5 : M43 18 5 = M41 18 5 := f42 18 5 (fun q => absurd q.1 (by decide))
        have tM43_18_6 : M43 18 6 = M41 18 6 := f42 18 6 (fun q => absurd q.1 (by decide))
        have tM43_19_3 : M43 19 3 = M41 19 3 := f42 19 3 (fun q => absurd q.1 (by decide))
        have hF := hF.wr f42 (by decide) (by decide)
        have hW : WFk M43 := hW.site f42 (by decide)
        refine z_aload_n F dX6_readThing_161 rfl (q := 2) rfl ?_
        refine rf_X6_12 F gs_18 rfl dX6_readThing_162 ?_
        refine z_dup F dX6_readThing_165 rfl ?_
        refine gf_X6_205 F hI gs_19 rfl bd_19_12 dX6_readThing_166 (fun v44 ev44 av44 bv44 => ?_)
        refine z_iload F dX6_readThing_169 (q := 1) rfl ?_
        refine z_if_eq (tgt := 181) F dX6_readThing_171 (by decide +kernel) (by omega) (fun c45 => ?_) (fun c45 => ?_)
        · refine z_iconst F dX6_readThing_181 ?_
          refine z_ior0 F dX6_readThing_182 (fun v46 ev46 rv46 => ?_)
          refine pf_X6_205 F hI gs_19 rfl bd_19_12 rfl rfl dX6_readThing_183 (by omega) (by omega) (fun M48 hI sf47 f47 => ?_)
          have tM48_18_1 : M48 18 1 = M43 18 1 := f47 18 1 (fun q => absurd q.1 (by decide))
          have tM48_18_4 : M48 18 4 = M43 18 4 := f47 18 4 (fun q => absurd q.1 (by decide))
          have tM48_18_5 : M48 18 5 = M43 18 5 := f47 18 5 (fun q => absurd q.1 (by decide))
          have tM48_18_6 : M48 18 6 = M43 18 6 := f47 18 6 (fun q => absurd q.1 (by decide))
          have tM48_19_3 : M48 19 3 = M43 19 3 := f47 19 3 (fun q => absurd q.2 (by decide))
          have hF := hF.wr f47 (by decide) (by decide)
          have hW : WFk M48 := hW.site f47 (by decide)
          refine z_aload_n F dX6_readThing_186 rfl (q := 2) rfl ?_
          refine rf_X6_12 F gs_18 rfl dX6_readThing_187 ?_
          refine z_dup F dX6_readThing_190 rfl ?_
          refine gf_X6_181 F hI gs_19 rfl bd_19_3 dX6_readThing_191 (fun v49 ev49 av49 bv49 => ?_)
          have q50 : v25 = M37 19 3 := ev25.trans (f36 19 3 (fun q => absurd q.1 (by decide))).symm
          have q51 : v25 = M39 19 3 := q50.trans (f38 19 3 (fun q => absurd q.1 (by decide))).symm
          have q52 : v25 = M41 19 3 := q51.trans (f40 19 3 (fun q => absurd q.1 (by decide))).symm
          have q53 : v25 = M43 19 3 := q52.trans (f42 19 3 (fun q => absurd q.1 (by decide))).symm
          have q54 : v25 = M48 19 3 := q53.trans (f47 19 3 (fun q => absurd q.2 (by decide))).symm
          have zv49 : v25 = v49 := q54.trans ev49.symm
          subst zv49
          refine z_iconst F dX6_readThing_194 ?_
          refine z_iadd F dX6_readThing_195 ?_
          refine z_nm (fun v55 ev55 => ?_)
          refine pf_X6_181 F hI gs_19 rfl bd_19_3 rfl rfl dX6_readThing_196 (by omega) (by omega) (fun M57 hI sf56 f56 => ?_)
          have tM57_18_1 : M57 18 1 = M48 18 1 := f56 18 1 (fun q => absurd q.1 (by decide))
          have tM57_18_4 : M57 18 4 = M48 18 4 := f56 18 4 (fun q => absurd q.1 (by decide))
          have tM57_18_5 : M57 18 5 = M48 18 5 := f56 18 5 (fun q => absurd q.1 (by decide))
          have tM57_18_6 : M57 18 6 = M48 18 6 := f56 18 6 (fun q => absurd q.1 (by decide))
          have hF := hF.wr f56 (by decide) (by decide)
          have hW : WFk M57 := hW.site f56 (by decide)
          exact hret _ 199 _ ⟨hI, hW⟩ ⟨hF, (by omega)⟩ dX6_readThing_199
        · refine z_iconst F dX6_readThing_174 ?_
          refine z_iload F dX6_readThing_175 (q := 0) rfl ?_
          refine z_shl1 (k := 7) F dX6_readThing_177 (by decide) (by omega) (by omega) (fun v58 ev58 av58 bv58 => ?_)
          refine z_goto (tgt := 182) F dX6_readThing_178 (by decide +kernel) ?_
          refine z_ior0 F dX6_readThing_182 (fun v59 ev59 rv59 => ?_)
          refine pf_X6_205 F hI gs_19 rfl bd_19_12 rfl rfl dX6_readThing_183 (by omega) (by omega) (fun M61 hI sf60 f60 => ?_)
          have tM61_18_1 : M61 18 1 = M43 18 1 := f60 18 1 (fun q => absurd q.1 (by decide))
          have tM61_18_4 : M61 18 4 = M43 18 4 := f60 18 4 (fun q => absurd q.1 (by decide))
          have tM61_18_5 : M61 18 5 = M43 18 5 := f60 18 5 (fun q => absurd q.1 (by decide))
          have tM61_18_6 : M61 18 6 = M43 18 6 := f60 18 6 (fun q => absurd q.1 (by decide))
          have tM61_19_3 : M61 19 3 = M43 19 3 := f60 19 3 (fun q => absurd q.2 (by decide))
          have hF := hF.wr f60 (by decide) (by decide)
          have hW : WFk M61 := hW.site f60 (by decide)
          refine z_aload_n F dX6_readThing_186 rfl (q := 2) rfl ?_
          refine rf_X6_12 F gs_18 rfl dX6_readThing_187 ?_
          refine z_dup F dX6_readThing_190 rfl ?_
          refine gf_X6_181 F hI gs_19 rfl bd_19_3 dX6_readThing_191 (fun v62 ev62 av62 bv62 => ?_)
          have q63 : v25 = M37 19 3 := ev25.trans (f36 19 3 (fun q => absurd q.1 (by decide))).symm
          have q64 : v25 = M39 19 3 := q63.trans (f38 19 3 (fun q => absurd q.1 (by decide))).symm
          have q65 : v25 = M41 19 3 := q64.trans (f40 19 3 (fun q => absurd q.1 (by decide))).symm
          have q66 : v25 = M43 19 3 := q65.trans (f42 19 3 (fun q => absurd q.1 (by decide))).symm
          have q67 : v25 = M61 19 3 := q66.trans (f60 19 3 (fun q => absurd q.2 (by decide))).symm
          have zv62 : v25 = v62 := q67.trans ev62.symm
          subst zv62
          refine z_iconst F dX6_readThing_194 ?_
          refine z_iadd F dX6_readThing_195 ?_
          refine z_nm (fun v68 ev68 => ?_)
          refine pf_X6_181 F hI gs_19 rfl bd_19_3 rfl rfl dX6_readThing_196 (by omega) (by omega) (fun M70 hI sf69 f69 => ?_)
          have tM70_18_1 : M70 18 1 = M61 18 1 := f69 18 1 (fun q => absurd q.1 (by decide))
          have tM70_18_4 : M70 18 4 = M61 18 4 := f69 18 4 (fun q => absurd q.1 (by decide))
          have tM70_18_5 : M70 18 5 = M61 18 5 := f69 18 5 (fun q => absurd q.1 (by decide))
          have tM70_18_6 : M70 18 6 = M61 18 6 := f69 18 6 (fun q => absurd q.1 (by decide))
          have hF := hF.wr f69 (by decide) (by decide)
          have hW : WFk M70 := hW.site f69 (by decide)
          exact hret _ 199 _ ⟨hI, hW⟩ ⟨hF, (by omega)⟩ dX6_readThing_199
    refine z_aload_n F dX6_readThing_70 rfl (q := 0) rfl ?_
    refine z_ldcS (j := 8) F dX6_readThing_71 rfl rfl rfl ?_
    refine z_eq (st' := [.ref (ad 1008), .ref (ad 18)]) rfl rfl rfl ?_
    refine zv_i (rest := []) F (kp_X6_takeWord_18_1008 l M16 ⟨hI, hW⟩ (by omega)) cs_X6_144 (T := TX6) (N := 9) (ci := 6) rfl gs_18 (by decide) (by decide) rfl rfl rfl (Nat.le_of_ble_eq_true rfl) dX6_readThing_73 (fun v71 M72 rv71 hI p73 => ?_)
    obtain ⟨hI, hW⟩ := hI
    obtain ⟨⟨av71, bv71⟩, fp73, xp73⟩ := p73
    have hF := hF.call fp73 (by decide)
    have tM72_19_3 : M72 19 3 = M16 19 3 := fp73.at (by decide)
    obtain ⟨qp73_0, qp73_1, qp73_2, qp73_3⟩ := xp73
    refine z_if_eq (tgt := 89) F dX6_readThing_76 (by decide +kernel) (by omega) (fun c74 => ?_) (fun c74 => ?_)
    · refine z_iconst F dX6_readThing_89 ?_
      refine z_istore F dX6_readThing_90 (by decide) (ls' := [(4, ii 1), (0, .ref (ad 18)), (1, ii v8), (2, ii v13), (3, ii y17)]) rfl ?_
      refine z_loc [1, 2, 3, 4, 0] (ls' := [(0, .ref (ad 18)), (1, ii v8), (2, ii v13), (3, ii y17), (4, ii 1)]) rfl ?_
      exact cut92 1 M72 hI hW hF (by omega) (by omega) (by omega) (by omega) (by omega) (Fx0.tr (Fx0.rf M16) (Fx0.eq qp73_3))
    · refine z_aload_n F dX6_readThing_79 rfl (q := 0) rfl ?_
      refine z_iconst F dX6_readThing_80 ?_
      refine z_bipush F dX6_readThing_81 (by decide +kernel) ?_
      refine zv_i (rest := []) F (kp_X6_takeNumber_18 l M72 ⟨hI, hW⟩ 1 (by omega) (by omega) 9 (by omega) (by omega) (by omega)) cs_X6_110 (T := TX6) (N := 9) (ci := 6) rfl gs_18 (by decide) (by decide) rfl rfl rfl (Nat.le_of_ble_eq_true rfl) dX6_readThing_83 (fun v75 M76 rv75 hI p77 => ?_)
      obtain ⟨hI, hW⟩ := hI
      obtain ⟨⟨av75, bv75⟩, fp77, xp77⟩ := p77
      have hF := hF.call fp77 (by decide)
      have tM76_19_3 : M76 19 3 = M72 19 3 := fp77.at (by decide)
      have hkv75 : -1 ≤ v75 ∧ v75 ≤ 9 := by omega
      obtain ⟨qp77_0, qp77_1, qp77_2, qp77_3, qp77_4⟩ := xp77
      have oqp77_3 : Fx0 M72 M76 := qp77_3
      clear qp77_3
      have oqp77_4 : Ge0 M76 v75 := by unfold Ge0; omega
      clear qp77_4
      refine z_goto (tgt := 90) F dX6_readThing_86 (by decide +kernel) ?_
      refine z_istore F dX6_readThing_90 (by decide) (ls' := [(4, ii v75), (0, .ref (ad 18)), (1, ii v8), (2, ii v13), (3, ii y17)]) rfl ?_
      refine z_loc [1, 2, 3, 4, 0] (ls' := [(0, .ref (ad 18)), (1, ii v8), (2, ii v13), (3, ii y17), (4, ii v75)]) rfl ?_
      exact cut92 v75 M76 hI hW hF (by omega) (by omega) (by omega) (by omega) (by omega) (Fx0.tr (Fx0.tr (Fx0.rf M16) (Fx0.eq qp73_3)) oqp77_3)
  refine z_aload_n F dX6_readThing_49 rfl (q := 2) rfl ?_
  refine z_ldcS (j := 7) F dX6_readThing_50 rfl rfl rfl ?_
  refine z_eq (st' := [.ref (ad 1007), .ref (ad 18)]) rfl rfl rfl ?_
  refine zv_i (rest := []) F (kp_X6_takeWord_18_1007 l M14 ⟨hI, hW⟩ (by omega)) cs_X6_144 (T := TX6) (N := 9) (ci := 6) rfl gs_18 (by decide) (by decide) rfl rfl rfl (Nat.le_of_ble_eq_true rfl) dX6_readThing_52 (fun v78 M79 rv78 hI p80 => ?_)
  obtain ⟨hI, hW⟩ := hI
  obtain ⟨⟨av78, bv78⟩, fp80, xp80⟩ := p80
  have hF := hF.call fp80 (by decide)
  have tM79_19_3 : M79 19 3 = M14 19 3 := fp80.at (by decide)
  obtain ⟨qp80_0, qp80_1, qp80_2, qp80_3⟩ := xp80
  refine z_if_eq (tgt := 68) F dX6_readThing_55 (by decide +kernel) (by omega) (fun c81 => ?_) (fun c81 => ?_)
  · refine z_iconst F dX6_readThing_68 ?_
    refine z_istore_n F dX6_readThing_69 rfl (by decide) (ls' := [(3, ii 0), (2, ii v13), (1, ii v8), (0, .ref (ad 18))]) rfl ?_
    refine z_loc [3, 2, 1, 0] (ls' := [(0, .ref (ad 18)), (1, ii v8), (2, ii v13), (3, ii 0)]) rfl ?_
    exact cut70 0 M79 hI hW hF (by omega) (by omega) (by omega) (by omega) (by omega) (Fx0.tr (Fx0.rf M14) (Fx0.eq qp80_3))
  · refine z_aload_n F dX6_readThing_58 rfl (q := 2) rfl ?_
    refine z_iconst F dX6_readThing_59 ?_
    refine z_bipush F dX6_readThing_60 (by decide +kernel) ?_
    refine zv_i (rest := []) F (kp_X6_takeNumber_18 l M79 ⟨hI, hW⟩ 0 (by omega) (by omega) 9 (by omega) (by omega) (by omega)) cs_X6_110 (T := TX6) (N := 9) (ci := 6) rfl gs_18 (by decide) (by decide) rfl rfl rfl (Nat.le_of_ble_eq_true rfl) dX6_readThing_62 (fun v82 M83 rv82 hI p84 => ?_)
    obtain ⟨hI, hW⟩ := hI
    obtain ⟨⟨av82, bv82⟩, fp84, xp84⟩ := p84
    have hF := hF.call fp84 (by decide)
    have tM83_19_3 : M83 19 3 = M79 19 3 := fp84.at (by decide)
    have hkv82 : -1 ≤ v82 ∧ v82 ≤ 9 := by omega
    obtain ⟨qp84_0, qp84_1, qp84_2, qp84_3, qp84_4⟩ := xp84
    have oqp84_3 : Fx0 M79 M83 := qp84_3
    clear qp84_3
    have oqp84_4 : Ge0 M83 v82 := by unfold Ge0; omega
    clear qp84_4
    refine z_goto (tgt := 69) F dX6_readThing_65 (by decide +kernel) ?_
    refine z_istore_n F dX6_readThing_69 rfl (by decide) (ls' := [(3, ii v82), (2, ii v13), (1, ii v8), (0, .ref (ad 18))]) rfl ?_
    refine z_loc [3, 2, 1, 0] (ls' := [(0, .ref (ad 18)), (1, ii v8), (2, ii v13), (3, ii v82)]) rfl ?_
    exact cut70 v82 M83 hI hW hF (by omega) (by omega) (by omega) (by omega) (by omega) (Fx0.tr (Fx0.tr (Fx0.rf M14) (Fx0.eq qp80_3)) oqp84_3)
set_option maxHeartbeats 4000000 in
set_option maxRecDepth 4000 in
theorem kp_X6_takeWord_18_1004 (l : Launch) (M : Mem) (hJ : Iw M) (hp0 : M 18 6 ≤ M 18 5 ∧ M 18 5 ≤ M 18 4) : CI l yX6_takeWord cX6_takeWord 3 (some .boolean) 7 (fun ad => [.ref (ad 18), .ref (ad 1004)]) M (fun z M' => (0 ≤ z ∧ z ≤ 1) ∧ Fr [18] M M' ∧ (M' 18 4 = M 18 4 ∧ M' 18 6 ≤ M' 18 5 ∧ M' 18 5 ≤ M' 18 4 ∧ M' 18 1 = M 18 1)) := by
  obtain ⟨hI, hW⟩ := hJ
  have hF : Fr [18] M M := Fr.rf
  refine en_z (by decide +kernel) (fun ad => by exact Nat.le_of_ble_eq_true rfl) (fun D cy ad A p e s m args below meth c Q F hret => ?_)
  refine z_eq (ls' := [(0, .ref (ad 18)), (1, .ref (ad 1004))]) rfl rfl rfl ?_
  refine z_aload_n F dX6_takeWord_0 rfl (q := 0) rfl ?_
  refine z_aload_n F dX6_takeWord_1 rfl (q := 1) rfl ?_
  refine zv_i (rest := []) F (kp_X6_isWord_18_1004 l M ⟨hI, hW⟩ (by omega)) cs_X6_86 (T := TX6) (N := 9) (ci := 6) rfl gs_18 (by decide) (by decide) rfl rfl rfl (Nat.le_of_ble_eq_true rfl) dX6_takeWord_2 (fun v1 M2 rv1 hI p3 => ?_)
  obtain ⟨hI, hW⟩ := hI
  obtain ⟨⟨av1, bv1⟩, rfl⟩ := p3
  refine z_istore_n F dX6_takeWord_5 rfl (by decide) (ls' := [(2, ii v1), (0, .ref (ad 18)), (1, .ref (ad 1004))]) rfl ?_
  refine z_iload_n F dX6_takeWord_6 rfl (q := 0) rfl ?_
  refine z_if_eq (tgt := 14) F dX6_takeWord_7 (by decide +kernel) (by omega) (fun c4 => ?_) (fun c4 => ?_)
  · refine z_iload_n F dX6_takeWord_14 rfl (q := 0) rfl ?_
    exact hret _ _ 15 _ ⟨by omega, by omega⟩ ⟨hI, hW⟩ ⟨⟨by omega, by omega⟩, hF, (by omega)⟩ dX6_takeWord_15
  · refine z_aload_n F dX6_takeWord_10 rfl (q := 1) rfl ?_
    refine zv_v (rest := []) F (kp_X6_advance_18 l M ⟨hI, hW⟩ (by omega)) cs_X6_42 (T := TX6) (N := 9) (ci := 6) rfl gs_18 (by decide) (by decide) rfl rfl rfl (Nat.le_of_ble_eq_true rfl) dX6_takeWord_11 (fun M5 hI p6 => ?_)
    obtain ⟨hI, hW⟩ := hI
    obtain ⟨fp6, xp6⟩ := p6
    have hF := hF.call fp6 (by decide)
    refine z_iload_n F dX6_takeWord_14 rfl (q := 0) rfl ?_
    exact hret _ _ 15 _ ⟨by omega, by omega⟩ ⟨hI, hW⟩ ⟨⟨by omega, by omega⟩, hF, (by omega)⟩ dX6_takeWord_15
set_option maxRecDepth 4000 in
theorem k_X9_join_19 (l : Launch) (M : Mem) (hJ : Iw M) (x0 : Int) (hx0a : 0 ≤ x0) (hx0b : x0 ≤ 9) (x1 : Int) (hx1a : 0 ≤ x1) (hx1b : x1 ≤ 9) (x2 : Int) (hx2a : 0 ≤ x2) (hx2b : x2 ≤ 1) : CV l yX9_join cX9_join 4 none 1 (fun ad => [.ref (ad 19), ii x0, ii x1, ii x2]) M (fun M' => Fr [19, 20, 21] M M') := by
  obtain ⟨hI, hW⟩ := hJ
  have hF : Fr [19, 20, 21] M M := Fr.rf
  refine en_v (by decide +kernel) (fun ad => by exact Nat.le_of_ble_eq_true rfl) (fun D cy ad A p e s m args below meth c Q F hret => ?_)
  refine z_eq (ls' := [(0, .ref (ad 19)), (1, ii x0), (2, ii x1), (3, ii x2)]) rfl rfl rfl ?_
  refine z_aload_n F dX9_join_0 rfl (q := 0) rfl ?_
  refine rf_X9_9 F gs_19 rfl dX9_join_1 ?_
  refine z_iload_n F dX9_join_4 rfl (q := 1) rfl ?_
  refine z_dup2 F dX9_join_5 rfl rfl ?_
  refine z_iald F hI gs_20 (by omega) (by omega) (by decide) bd_20 dX9_join_6 (fun v1 (ev1 : v1 = M 20 _) av1 bv1 => ?_)
  refine z_iconst F dX9_join_7 ?_
  refine z_iload_n F dX9_join_8 rfl (q := 2) rfl ?_
  refine z_shl1 (k := 9) F dX9_join_9 (by decide) (by omega) (by omega) (fun v2 ev2 av2 bv2 => ?_)
  refine z_ior0 F dX9_join_10 (fun v3 ev3 rv3 => ?_)
  refine z_iast F hI gs_20 (by omega) (by omega) (by decide) bd_20 dX9_join_11 (by omega) (by omega) (fun M5 hI sf4 f4 => ?_)
  have hF := hF.wr f4 (by decide) (by decide)
  have hW : WFk M5 := hW.site f4 (by decide)
  refine z_aload_n F dX9_join_12 rfl (q := 0) rfl ?_
  refine rf_X9_9 F gs_19 rfl dX9_join_13 ?_
  refine z_iload_n F dX9_join_16 rfl (q := 2) rfl ?_
  refine z_dup2 F dX9_join_17 rfl rfl ?_
  refine z_iald F hI gs_20 (by omega) (by omega) (by decide) bd_20 dX9_join_18 (fun v6 (ev6 : v6 = M5 20 _) av6 bv6 => ?_)
  refine z_iconst F dX9_join_19 ?_
  refine z_iload_n F dX9_join_20 rfl (q := 1) rfl ?_
  refine z_shl1 (k := 9) F dX9_join_21 (by decide) (by omega) (by omega) (fun v7 ev7 av7 bv7 => ?_)
  refine z_ior0 F dX9_join_22 (fun v8 ev8 rv8 => ?_)
  refine z_iast F hI gs_20 (by omega) (by omega) (by decide) bd_20 dX9_join_23 (by omega) (by omega) (fun M10 hI sf9 f9 => ?_)
  have hF := hF.wr f9 (by decide) (by decide)
  have hW : WFk M10 := hW.site f9 (by decide)
  refine z_iload_n F dX9_join_24 rfl (q := 3) rfl ?_
  refine z_if_eq (tgt := 52) F dX9_join_25 (by decide +kernel) (by omega) (fun c11 => ?_) (fun c11 => ?_)
  · refine z_aload_n F dX9_join_52 rfl (q := 0) rfl ?_
    refine z_dup F dX9_join_53 rfl ?_
    refine gf_X9_59 F hI gs_19 rfl bd_19_2 dX9_join_54 (fun v12 ev12 av12 bv12 => ?_)
    refine z_iconst F dX9_join_57 ?_
    refine z_iadd F dX9_join_58 ?_
    refine z_wrap (fun v13 rv13 wv13 => ?_)
    refine pf_X9_59 F hI gs_19 rfl bd_19_2 rfl rfl dX9_join_59 (by omega) (by omega) (fun M15 hI sf14 f14 => ?_)
    have hF := hF.wr f14 (by decide) (by decide)
    have hW : WFk M15 := hW.site f14 (by decide)
    exact hret _ 62 _ ⟨hI, hW⟩ hF dX9_join_62
  · refine z_aload_n F dX9_join_28 rfl (q := 0) rfl ?_
    refine rf_X9_15 F gs_19 rfl dX9_join_29 ?_
    refine z_iload_n F dX9_join_32 rfl (q := 1) rfl ?_
    refine z_dup2 F dX9_join_33 rfl rfl ?_
    refine z_iald F hI gs_21 (by omega) (by omega) (by decide) bd_21 dX9_join_34 (fun v16 (ev16 : v16 = M10 21 _) av16 bv16 => ?_)
    refine z_iconst F dX9_join_35 ?_
    refine z_iload_n F dX9_join_36 rfl (q := 2) rfl ?_
    refine z_shl1 (k := 9) F dX9_join_37 (by decide) (by omega) (by omega) (fun v17 ev17 av17 bv17 => ?_)
    refine z_ior0 F dX9_join_38 (fun v18 ev18 rv18 => ?_)
    refine z_iast F hI gs_21 (by omega) (by omega) (by decide) bd_21 dX9_join_39 (by omega) (by omega) (fun M20 hI sf19 f19 => ?_)
    have hF := hF.wr f19 (by decide) (by decide)
    have hW : WFk M20 := hW.site f19 (by decide)
    refine z_aload_n F dX9_join_40 rfl (q := 0) rfl ?_
    refine rf_X9_15 F gs_19 rfl dX9_join_41 ?_
    refine z_iload_n F dX9_join_44 rfl (q := 2) rfl ?_
    refine z_dup2 F dX9_join_45 rfl rfl ?_
    refine z_iald F hI gs_21 (by omega) (by omega) (by decide) bd_21 dX9_join_46 (fun v21 (ev21 : v21 = M20 21 _) av21 bv21 => ?_)
    refine z_iconst F dX9_join_47 ?_
    refine z_iload_n F dX9_join_48 rfl (q := 1) rfl ?_
    refine z_shl1 (k := 9) F dX9_join_49 (by decide) (by omega) (by omega) (fun v22 ev22 av22 bv22 => ?_)
    refine z_ior0 F dX9_join_50 (fun v23 ev23 rv23 => ?_)
    refine z_iast F hI gs_21 (by omega) (by omega) (by decide) bd_21 dX9_join_51 (by omega) (by omega) (fun M25 hI sf24 f24 => ?_)
    have hF := hF.wr f24 (by decide) (by decide)
    have hW : WFk M25 := hW.site f24 (by decide)
    refine z_aload_n F dX9_join_52 rfl (q := 0) rfl ?_
    refine z_dup F dX9_join_53 rfl ?_
    refine gf_X9_59 F hI gs_19 rfl bd_19_2 dX9_join_54 (fun v26 ev26 av26 bv26 => ?_)
    refine z_iconst F dX9_join_57 ?_
    refine z_iadd F dX9_join_58 ?_
    refine z_wrap (fun v27 rv27 wv27 => ?_)
    refine pf_X9_59 F hI gs_19 rfl bd_19_2 rfl rfl dX9_join_59 (by omega) (by omega) (fun M29 hI sf28 f28 => ?_)
    have hF := hF.wr f28 (by decide) (by decide)
    have hW : WFk M29 := hW.site f28 (by decide)
    exact hret _ 62 _ ⟨hI, hW⟩ hF dX9_join_62
