def Fx0 (M M' : Mem) : Prop := M' 18 1 = 0 → M 18 1 = 0
def Ge0 (M : Mem) (z : Int) : Prop := M 18 1 = 0 → 0 ≤ z
def Lt0 (M : Mem) (a b : Int) : Prop := M 18 1 = 0 → a < b
theorem Fx0.rf (M : Mem) : Fx0 M M := fun h => h
theorem Fx0.eq {M M' : Mem} (h : M' 18 1 = M 18 1) : Fx0 M M' := fun g => h.symm.trans g
theorem Fx0.tr {M M1 M2 : Mem} (h : Fx0 M M1) (g : Fx0 M1 M2) : Fx0 M M2 := fun q => h (g q)
theorem dX6_readThing_0 : decode cX6_readThing 0 = .ok (.aload_n 0, 1) := by decide +kernel
theorem dX6_readThing_1 : decode cX6_readThing 1 = .ok (.aload_n 0, 1) := by decide +kernel
theorem dX6_readThing_10 : decode cX6_readThing 10 = .ok (.invokevirtual 166, 3) := by decide +kernel
theorem dX6_readThing_100 : decode cX6_readThing 100 = .ok (.aload_n 0, 1) := by decide +kernel
theorem dX6_readThing_101 : decode cX6_readThing 101 = .ok (.getfield 36, 3) := by decide +kernel
theorem dX6_readThing_104 : decode cX6_readThing 104 = .ok (.ifCond .ne 95, 3) := by decide +kernel
theorem dX6_readThing_107 : decode cX6_readThing 107 = .ok (.aload_n 0, 1) := by decide +kernel
theorem dX6_readThing_108 : decode cX6_readThing 108 = .ok (.getfield 12, 3) := by decide +kernel
theorem dX6_readThing_111 : decode cX6_readThing 111 = .ok (.getfield 181, 3) := by decide +kernel
theorem dX6_readThing_114 : decode cX6_readThing 114 = .ok (.istore 6, 2) := by decide +kernel
theorem dX6_readThing_116 : decode cX6_readThing 116 = .ok (.aload_n 0, 1) := by decide +kernel
theorem dX6_readThing_117 : decode cX6_readThing 117 = .ok (.getfield 12, 3) := by decide +kernel
theorem dX6_readThing_120 : decode cX6_readThing 120 = .ok (.getfield 195, 3) := by decide +kernel
theorem dX6_readThing_123 : decode cX6_readThing 123 = .ok (.iload 6, 2) := by decide +kernel
theorem dX6_readThing_125 : decode cX6_readThing 125 = .ok (.iload_n 1, 1) := by decide +kernel
theorem dX6_readThing_126 : decode cX6_readThing 126 = .ok (.iastore, 1) := by decide +kernel
theorem dX6_readThing_127 : decode cX6_readThing 127 = .ok (.aload_n 0, 1) := by decide +kernel
theorem dX6_readThing_128 : decode cX6_readThing 128 = .ok (.getfield 12, 3) := by decide +kernel
theorem dX6_readThing_13 : decode cX6_readThing 13 = .ok (.aload_n 0, 1) := by decide +kernel
theorem dX6_readThing_131 : decode cX6_readThing 131 = .ok (.getfield 198, 3) := by decide +kernel
theorem dX6_readThing_134 : decode cX6_readThing 134 = .ok (.iload 6, 2) := by decide +kernel
theorem dX6_readThing_136 : decode cX6_readThing 136 = .ok (.iload_n 2, 1) := by decide +kernel
theorem dX6_readThing_137 : decode cX6_readThing 137 = .ok (.iastore, 1) := by decide +kernel
theorem dX6_readThing_138 : decode cX6_readThing 138 = .ok (.aload_n 0, 1) := by decide +kernel
theorem dX6_readThing_139 : decode cX6_readThing 139 = .ok (.getfield 12, 3) := by decide +kernel
theorem dX6_readThing_14 : decode cX6_readThing 14 = .ok (.iconst 0, 1) := by decide +kernel
theorem dX6_readThing_142 : decode cX6_readThing 142 = .ok (.getfield 201, 3) := by decide +kernel
theorem dX6_readThing_145 : decode cX6_readThing 145 = .ok (.iload 6, 2) := by decide +kernel
theorem dX6_readThing_147 : decode cX6_readThing 147 = .ok (.iload_n 3, 1) := by decide +kernel
theorem dX6_readThing_148 : decode cX6_readThing 148 = .ok (.iastore, 1) := by decide +kernel
theorem dX6_readThing_149 : decode cX6_readThing 149 = .ok (.aload_n 0, 1) := by decide +kernel
theorem dX6_readThing_15 : decode cX6_readThing 15 = .ok (.aload_n 0, 1) := by decide +kernel
theorem dX6_readThing_150 : decode cX6_readThing 150 = .ok (.getfield 12, 3) := by decide +kernel
theorem dX6_readThing_153 : decode cX6_readThing 153 = .ok (.getfield 203, 3) := by decide +kernel
theorem dX6_readThing_156 : decode cX6_readThing 156 = .ok (.iload 6, 2) := by decide +kernel
theorem dX6_readThing_158 : decode cX6_readThing 158 = .ok (.iload 4, 2) := by decide +kernel
theorem dX6_readThing_16 : decode cX6_readThing 16 = .ok (.getfield 12, 3) := by decide +kernel
theorem dX6_readThing_160 : decode cX6_readThing 160 = .ok (.iastore, 1) := by decide +kernel
theorem dX6_readThing_161 : decode cX6_readThing 161 = .ok (.aload_n 0, 1) := by decide +kernel
theorem dX6_readThing_162 : decode cX6_readThing 162 = .ok (.getfield 12, 3) := by decide +kernel
theorem dX6_readThing_165 : decode cX6_readThing 165 = .ok (.dup, 1) := by decide +kernel
theorem dX6_readThing_166 : decode cX6_readThing 166 = .ok (.getfield 205, 3) := by decide +kernel
theorem dX6_readThing_169 : decode cX6_readThing 169 = .ok (.iload 5, 2) := by decide +kernel
theorem dX6_readThing_171 : decode cX6_readThing 171 = .ok (.ifCond .eq 10, 3) := by decide +kernel
theorem dX6_readThing_174 : decode cX6_readThing 174 = .ok (.iconst 1, 1) := by decide +kernel
theorem dX6_readThing_175 : decode cX6_readThing 175 = .ok (.iload 6, 2) := by decide +kernel
theorem dX6_readThing_177 : decode cX6_readThing 177 = .ok (.ishl, 1) := by decide +kernel
theorem dX6_readThing_178 : decode cX6_readThing 178 = .ok (.goto 4, 3) := by decide +kernel
theorem dX6_readThing_181 : decode cX6_readThing 181 = .ok (.iconst 0, 1) := by decide +kernel
theorem dX6_readThing_182 : decode cX6_readThing 182 = .ok (.ior, 1) := by decide +kernel
theorem dX6_readThing_183 : decode cX6_readThing 183 = .ok (.putfield 205, 3) := by decide +kernel
theorem dX6_readThing_186 : decode cX6_readThing 186 = .ok (.aload_n 0, 1) := by decide +kernel
theorem dX6_readThing_187 : decode cX6_readThing 187 = .ok (.getfield 12, 3) := by decide +kernel
theorem dX6_readThing_19 : decode cX6_readThing 19 = .ok (.getfield 170, 3) := by decide +kernel
theorem dX6_readThing_190 : decode cX6_readThing 190 = .ok (.dup, 1) := by decide +kernel
theorem dX6_readThing_191 : decode cX6_readThing 191 = .ok (.getfield 181, 3) := by decide +kernel
theorem dX6_readThing_194 : decode cX6_readThing 194 = .ok (.iconst 1, 1) := by decide +kernel
theorem dX6_readThing_195 : decode cX6_readThing 195 = .ok (.iadd, 1) := by decide +kernel
theorem dX6_readThing_196 : decode cX6_readThing 196 = .ok (.putfield 181, 3) := by decide +kernel
theorem dX6_readThing_199 : decode cX6_readThing 199 = .ok (.return_, 1) := by decide +kernel
theorem dX6_readThing_2 : decode cX6_readThing 2 = .ok (.getfield 12, 3) := by decide +kernel
theorem dX6_readThing_22 : decode cX6_readThing 22 = .ok (.iconst 1, 1) := by decide +kernel
theorem dX6_readThing_23 : decode cX6_readThing 23 = .ok (.isub, 1) := by decide +kernel
theorem dX6_readThing_24 : decode cX6_readThing 24 = .ok (.aload_n 0, 1) := by decide +kernel
theorem dX6_readThing_25 : decode cX6_readThing 25 = .ok (.getfield 12, 3) := by decide +kernel
theorem dX6_readThing_28 : decode cX6_readThing 28 = .ok (.invokevirtual 184, 3) := by decide +kernel
theorem dX6_readThing_31 : decode cX6_readThing 31 = .ok (.invokevirtual 97, 3) := by decide +kernel
theorem dX6_readThing_34 : decode cX6_readThing 34 = .ok (.istore_n 1, 1) := by decide +kernel
theorem dX6_readThing_35 : decode cX6_readThing 35 = .ok (.aload_n 0, 1) := by decide +kernel
theorem dX6_readThing_36 : decode cX6_readThing 36 = .ok (.ldc 187, 2) := by decide +kernel
theorem dX6_readThing_38 : decode cX6_readThing 38 = .ok (.invokevirtual 106, 3) := by decide +kernel
theorem dX6_readThing_41 : decode cX6_readThing 41 = .ok (.aload_n 0, 1) := by decide +kernel
theorem dX6_readThing_42 : decode cX6_readThing 42 = .ok (.iconst 0, 1) := by decide +kernel
theorem dX6_readThing_43 : decode cX6_readThing 43 = .ok (.bipush 99, 2) := by decide +kernel
theorem dX6_readThing_45 : decode cX6_readThing 45 = .ok (.invokevirtual 110, 3) := by decide +kernel
theorem dX6_readThing_48 : decode cX6_readThing 48 = .ok (.istore_n 2, 1) := by decide +kernel
theorem dX6_readThing_49 : decode cX6_readThing 49 = .ok (.aload_n 0, 1) := by decide +kernel
theorem dX6_readThing_5 : decode cX6_readThing 5 = .ok (.getfield 181, 3) := by decide +kernel
theorem dX6_readThing_50 : decode cX6_readThing 50 = .ok (.ldc 189, 2) := by decide +kernel
theorem dX6_readThing_52 : decode cX6_readThing 52 = .ok (.invokevirtual 144, 3) := by decide +kernel
theorem dX6_readThing_55 : decode cX6_readThing 55 = .ok (.ifCond .eq 13, 3) := by decide +kernel
theorem dX6_readThing_58 : decode cX6_readThing 58 = .ok (.aload_n 0, 1) := by decide +kernel
theorem dX6_readThing_59 : decode cX6_readThing 59 = .ok (.iconst 0, 1) := by decide +kernel
theorem dX6_readThing_60 : decode cX6_readThing 60 = .ok (.bipush 9, 2) := by decide +kernel
theorem dX6_readThing_62 : decode cX6_readThing 62 = .ok (.invokevirtual 110, 3) := by decide +kernel
theorem dX6_readThing_65 : decode cX6_readThing 65 = .ok (.goto 4, 3) := by decide +kernel
theorem dX6_readThing_68 : decode cX6_readThing 68 = .ok (.iconst 0, 1) := by decide +kernel
theorem dX6_readThing_69 : decode cX6_readThing 69 = .ok (.istore_n 3, 1) := by decide +kernel
theorem dX6_readThing_70 : decode cX6_readThing 70 = .ok (.aload_n 0, 1) := by decide +kernel
theorem dX6_readThing_71 : decode cX6_readThing 71 = .ok (.ldc 191, 2) := by decide +kernel
theorem dX6_readThing_73 : decode cX6_readThing 73 = .ok (.invokevirtual 144, 3) := by decide +kernel
theorem dX6_readThing_76 : decode cX6_readThing 76 = .ok (.ifCond .eq 13, 3) := by decide +kernel
theorem dX6_readThing_79 : decode cX6_readThing 79 = .ok (.aload_n 0, 1) := by decide +kernel
theorem dX6_readThing_8 : decode cX6_readThing 8 = .ok (.bipush 8, 2) := by decide +kernel
theorem dX6_readThing_80 : decode cX6_readThing 80 = .ok (.iconst 1, 1) := by decide +kernel
theorem dX6_readThing_81 : decode cX6_readThing 81 = .ok (.bipush 9, 2) := by decide +kernel
theorem dX6_readThing_83 : decode cX6_readThing 83 = .ok (.invokevirtual 110, 3) := by decide +kernel
theorem dX6_readThing_86 : decode cX6_readThing 86 = .ok (.goto 4, 3) := by decide +kernel
theorem dX6_readThing_89 : decode cX6_readThing 89 = .ok (.iconst 1, 1) := by decide +kernel
theorem dX6_readThing_90 : decode cX6_readThing 90 = .ok (.istore 4, 2) := by decide +kernel
theorem dX6_readThing_92 : decode cX6_readThing 92 = .ok (.aload_n 0, 1) := by decide +kernel
theorem dX6_readThing_93 : decode cX6_readThing 93 = .ok (.ldc 193, 2) := by decide +kernel
theorem dX6_readThing_95 : decode cX6_readThing 95 = .ok (.invokevirtual 144, 3) := by decide +kernel
theorem dX6_readThing_98 : decode cX6_readThing 98 = .ok (.istore 5, 2) := by decide +kernel
theorem dX9_join_0 : decode cX9_join 0 = .ok (.aload_n 0, 1) := by decide +kernel
theorem dX9_join_1 : decode cX9_join 1 = .ok (.getfield 9, 3) := by decide +kernel
theorem dX9_join_10 : decode cX9_join 10 = .ok (.ior, 1) := by decide +kernel
theorem dX9_join_11 : decode cX9_join 11 = .ok (.iastore, 1) := by decide +kernel
theorem dX9_join_12 : decode cX9_join 12 = .ok (.aload_n 0, 1) := by decide +kernel
theorem dX9_join_13 : decode cX9_join 13 = .ok (.getfield 9, 3) := by decide +kernel
theorem dX9_join_16 : decode cX9_join 16 = .ok (.iload_n 2, 1) := by decide +kernel
theorem dX9_join_17 : decode cX9_join 17 = .ok (.dup2, 1) := by decide +kernel
theorem dX9_join_18 : decode cX9_join 18 = .ok (.iaload, 1) := by decide +kernel
theorem dX9_join_19 : decode cX9_join 19 = .ok (.iconst 1, 1) := by decide +kernel
theorem dX9_join_20 : decode cX9_join 20 = .ok (.iload_n 1, 1) := by decide +kernel
theorem dX9_join_21 : decode cX9_join 21 = .ok (.ishl, 1) := by decide +kernel
theorem dX9_join_22 : decode cX9_join 22 = .ok (.ior, 1) := by decide +kernel
theorem dX9_join_23 : decode cX9_join 23 = .ok (.iastore, 1) := by decide +kernel
theorem dX9_join_24 : decode cX9_join 24 = .ok (.iload_n 3, 1) := by decide +kernel
theorem dX9_join_25 : decode cX9_join 25 = .ok (.ifCond .eq 27, 3) := by decide +kernel
theorem dX9_join_28 : decode cX9_join 28 = .ok (.aload_n 0, 1) := by decide +kernel
theorem dX9_join_29 : decode cX9_join 29 = .ok (.getfield 15, 3) := by decide +kernel
theorem dX9_join_32 : decode cX9_join 32 = .ok (.iload_n 1, 1) := by decide +kernel
theorem dX9_join_33 : decode cX9_join 33 = .ok (.dup2, 1) := by decide +kernel
theorem dX9_join_34 : decode cX9_join 34 = .ok (.iaload, 1) := by decide +kernel
theorem dX9_join_35 : decode cX9_join 35 = .ok (.iconst 1, 1) := by decide +kernel
theorem dX9_join_36 : decode cX9_join 36 = .ok (.iload_n 2, 1) := by decide +kernel
theorem dX9_join_37 : decode cX9_join 37 = .ok (.ishl, 1) := by decide +kernel
theorem dX9_join_38 : decode cX9_join 38 = .ok (.ior, 1) := by decide +kernel
theorem dX9_join_39 : decode cX9_join 39 = .ok (.iastore, 1) := by decide +kernel
theorem dX9_join_4 : decode cX9_join 4 = .ok (.iload_n 1, 1) := by decide +kernel
theorem dX9_join_40 : decode cX9_join 40 = .ok (.aload_n 0, 1) := by decide +kernel
theorem dX9_join_41 : decode cX9_join 41 = .ok (.getfield 15, 3) := by decide +kernel
theorem dX9_join_44 : decode cX9_join 44 = .ok (.iload_n 2, 1) := by decide +kernel
theorem dX9_join_45 : decode cX9_join 45 = .ok (.dup2, 1) := by decide +kernel
theorem dX9_join_46 : decode cX9_join 46 = .ok (.iaload, 1) := by decide +kernel
theorem dX9_join_47 : decode cX9_join 47 = .ok (.iconst 1, 1) := by decide +kernel
theorem dX9_join_48 : decode cX9_join 48 = .ok (.iload_n 1, 1) := by decide +kernel
theorem dX9_join_49 : decode cX9_join 49 = .ok (.ishl, 1) := by decide +kernel
theorem dX9_join_5 : decode cX9_join 5 = .ok (.dup2, 1) := by decide +kernel
theorem dX9_join_50 : decode cX9_join 50 = .ok (.ior, 1) := by decide +kernel
theorem dX9_join_51 : decode cX9_join 51 = .ok (.iastore, 1) := by decide +kernel
theorem dX9_join_52 : decode cX9_join 52 = .ok (.aload_n 0, 1) := by decide +kernel
theorem dX9_join_53 : decode cX9_join 53 = .ok (.dup, 1) := by decide +kernel
theorem dX9_join_54 : decode cX9_join 54 = .ok (.getfield 59, 3) := by decide +kernel
theorem dX9_join_57 : decode cX9_join 57 = .ok (.iconst 1, 1) := by decide +kernel
theorem dX9_join_58 : decode cX9_join 58 = .ok (.iadd, 1) := by decide +kernel
theorem dX9_join_59 : decode cX9_join 59 = .ok (.putfield 59, 3) := by decide +kernel
theorem dX9_join_6 : decode cX9_join 6 = .ok (.iaload, 1) := by decide +kernel
theorem dX9_join_62 : decode cX9_join 62 = .ok (.return_, 1) := by decide +kernel
theorem dX9_join_7 : decode cX9_join 7 = .ok (.iconst 1, 1) := by decide +kernel
theorem dX9_join_8 : decode cX9_join 8 = .ok (.iload_n 2, 1) := by decide +kernel
theorem dX9_join_9 : decode cX9_join 9 = .ok (.ishl, 1) := by decide +kernel
set_option maxHeartbeats 4000000 in
set_option maxRecDepth 4000 in
theorem kp_X6_readThing_18 (l : Launch) (M : Mem) (hJ : Iw M) (hp0 : M 18 6 ≤ M 18 5 ∧ M 18 5 ≤ M 18 4 ∧ M 18 7 ≤ 4 * (M 18 5 - M 18 6)) : CV l yX6_readThing cX6_readThing 7 none 9 (fun ad => [.ref (ad 18)]) M (fun M' => Fr [18, 19, 23, 24, 25, 26] M M' ∧ (M' 18 4 = M 18 4 ∧ M' 18 6 ≤ M' 18 5 ∧ M' 18 5 ≤ M' 18 4 ∧ M' 18 7 ≤ 4 * (M' 18 5 - M' 18 6) ∧ M 18 6 ≤ M' 18 6) ∧ (Im (M 18 1 = 0) (tC M' = thingF (absC M, dC M)))) := by
  obtain ⟨hI, hW⟩ := hJ
  have hF : Fr [18, 19, 23, 24, 25, 26] M M := Fr.rf
  refine en_v (by decide +kernel) (fun ad => by exact Nat.le_of_ble_eq_true rfl) (fun D cy ad A p e s m args below meth c Q F hret => ?_)
  refine z_eq (ls' := [(0, .ref (ad 18))]) rfl rfl rfl ?_
  obtain ⟨u1, eu1⟩ : ∃ v : Int, v = M 19 1 := ⟨_, rfl⟩
  have ku1 : 0 ≤ u1 ∧ u1 ≤ 10 := by have := hI.at (show Bd 19 1 = (0, 10) from rfl); omega
  obtain ⟨u2, eu2⟩ : ∃ v : Int, v = M 19 3 := ⟨_, rfl⟩
  have ku2 : 0 ≤ u2 ∧ u2 ≤ 8 := by have := hI.at (show Bd 19 3 = (0, 8) from rfl); omega
  refine z_aload_n F dX6_readThing_0 rfl (q := 0) rfl ?_
  refine z_aload_n F dX6_readThing_1 rfl (q := 0) rfl ?_
  refine rf_X6_12 F gs_18 rfl dX6_readThing_2 ?_
  refine gf_X6_181 F hI gs_19 rfl bd_19_3 dX6_readThing_5 (fun v3 ev3 av3 bv3 => ?_)
  have zv3 : u2 = v3 := eu2.trans ev3.symm
  subst zv3
  refine z_bipush F dX6_readThing_8 (by decide +kernel) ?_
  refine zv_v (rest := []) F (kp_X6_beginLine_18 l M ⟨hI, hW⟩ u2 (by omega) (by omega) 8 (by omega) (by omega) (by omega)) cs_X6_166 (T := TX6) (N := 9) (ci := 6) rfl gs_18 (by decide) (by decide) rfl rfl rfl (Nat.le_of_ble_eq_true rfl) dX6_readThing_10 (fun M4 hI p5 => ?_)
  obtain ⟨hI, hW⟩ := hI
  obtain ⟨fp5, xp5, yp5⟩ := p5
  have hF := hF.call fp5 (by decide)
  have tM4_19_1 : M4 19 1 = M 19 1 := fp5.at (by decide)
  have tM4_19_3 : M4 19 3 = M 19 3 := fp5.at (by decide)
  obtain ⟨qp5_0, qp5_1, qp5_2, qp5_3, qp5_4, qp5_5, qp5_6⟩ := xp5
  have oqp5_5 : Fx0 M M4 := qp5_5
  clear qp5_5
  have oqp5_6 : Lt0 M4 u2 8 := by unfold Lt0; omega
  clear qp5_6
  refine z_aload_n F dX6_readThing_13 rfl (q := 0) rfl ?_
  refine z_iconst F dX6_readThing_14 ?_
  refine z_aload_n F dX6_readThing_15 rfl (q := 0) rfl ?_
  refine rf_X6_12 F gs_18 rfl dX6_readThing_16 ?_
  refine gf_X6_170 F hI gs_19 rfl bd_19_1 dX6_readThing_19 (fun v6 ev6 av6 bv6 => ?_)
  have q7 : u1 = M4 19 1 := eu1.trans ((fp5.at (by decide)) : M4 19 1 = _).symm
  have zv6 : u1 = v6 := q7.trans ev6.symm
  subst zv6
  refine z_iconst F dX6_readThing_22 ?_
  refine z_isub F dX6_readThing_23 ?_
  refine z_aload_n F dX6_readThing_24 rfl (q := 0) rfl ?_
  refine rf_X6_12 F gs_18 rfl dX6_readThing_25 ?_
  refine zv_i (rest := [ii (u1 - 1), ii 0, .ref (ad 18)]) F (k_X9_homes_19 l M4 ⟨hI, hW⟩) cs_X6_184 (T := TX9) (N := 18) (ci := 9) rfl gs_19 (by decide) (by decide) rfl rfl rfl (Nat.le_of_ble_eq_true rfl) dX6_readThing_28 (fun v8 M9 rv8 hI p10 => ?_)
  obtain ⟨hI, hW⟩ := hI
  obtain ⟨⟨av8, bv8⟩, rfl, yp10⟩ := p10
  refine zv_i (rest := []) F (kp_X6_takeNumberBut_18 l M4 ⟨hI, hW⟩ 0 (by omega) (by omega) (u1 - 1) (by omega) (by omega) v8 (by omega) (by omega) (by omega)) cs_X6_97 (T := TX6) (N := 9) (ci := 6) rfl gs_18 (by decide) (by decide) rfl rfl rfl (Nat.le_of_ble_eq_true rfl) dX6_readThing_31 (fun v11 M12 rv11 hI p13 => ?_)
  obtain ⟨hI, hW⟩ := hI
  obtain ⟨⟨av11, bv11⟩, fp13, xp13, yp13⟩ := p13
  have hF := hF.call fp13 (by decide)
  have tM12_19_1 : M12 19 1 = M4 19 1 := fp13.at (by decide)
  have tM12_19_3 : M12 19 3 = M4 19 3 := fp13.at (by decide)
  have hkv11 : -1 ≤ v11 ∧ v11 ≤ 9 := by omega
  obtain ⟨qp13_0, qp13_1, qp13_2, qp13_3, qp13_4, qp13_5, qp13_6⟩ := xp13
  have oqp13_5 : Fx0 M4 M12 := qp13_5
  clear qp13_5
  have oqp13_6 : Ge0 M12 v11 := by unfold Ge0; omega
  clear qp13_6
  refine z_istore_n F dX6_readThing_34 rfl (by decide) (ls' := [(1, ii v11), (0, .ref (ad 18))]) rfl ?_
  refine z_aload_n F dX6_readThing_35 rfl (q := 1) rfl ?_
  refine z_ldcS (j := 6) F dX6_readThing_36 rfl rfl rfl ?_
  refine z_eq (st' := [.ref (ad 1006), .ref (ad 18)]) rfl rfl rfl ?_
  refine zv_v (rest := []) F (kp_X6_needWord_18_1006 l M12 ⟨hI, hW⟩ (by omega)) cs_X6_106 (T := TX6) (N := 9) (ci := 6) rfl gs_18 (by decide) (by decide) rfl rfl rfl (Nat.le_of_ble_eq_true rfl) dX6_readThing_38 (fun M14 hI p15 => ?_)
  obtain ⟨hI, hW⟩ := hI
  obtain ⟨fp15, xp15, yp15⟩ := p15
  have hF := hF.call fp15 (by decide)
  have tM14_19_1 : M14 19 1 = M12 19 1 := fp15.at (by decide)
  have tM14_19_3 : M14 19 3 = M12 19 3 := fp15.at (by decide)
  obtain ⟨qp15_0, qp15_1, qp15_2, qp15_3, qp15_4, qp15_5⟩ := xp15
  have oqp15_5 : Fx0 M12 M14 := qp15_5
  clear qp15_5
  refine z_aload_n F dX6_readThing_41 rfl (q := 1) rfl ?_
  refine z_iconst F dX6_readThing_42 ?_
  refine z_bipush F dX6_readThing_43 (by decide +kernel) ?_
  refine zv_i (rest := []) F (kp_X6_takeNumber_18 l M14 ⟨hI, hW⟩ 0 (by omega) (by omega) 99 (by omega) (by omega) (by omega)) cs_X6_110 (T := TX6) (N := 9) (ci := 6) rfl gs_18 (by decide) (by decide) rfl rfl rfl (Nat.le_of_ble_eq_true rfl) dX6_readThing_45 (fun v16 M17 rv16 hI p18 => ?_)
  obtain ⟨hI, hW⟩ := hI
  obtain ⟨⟨av16, bv16⟩, fp18, xp18, yp18⟩ := p18
  have hF := hF.call fp18 (by decide)
  have tM17_19_1 : M17 19 1 = M14 19 1 := fp18.at (by decide)
  have tM17_19_3 : M17 19 3 = M14 19 3 := fp18.at (by decide)
  have hkv16 : -1 ≤ v16 ∧ v16 ≤ 99 := by omega
  obtain ⟨qp18_0, qp18_1, qp18_2, qp18_3, qp18_4, qp18_5, qp18_6⟩ := xp18
  have oqp18_5 : Fx0 M14 M17 := qp18_5
  clear qp18_5
  have oqp18_6 : Ge0 M17 v16 := by unfold Ge0; omega
  clear qp18_6
  refine z_istore_n F dX6_readThing_48 rfl (by decide) (ls' := [(2, ii v16), (1, ii v11), (0, .ref (ad 18))]) rfl ?_
  have a1 : Im (M 18 1 = 0) (th1 (dC M) (absC M) = absC M4) := fun h0 => by
    show begT (M 19 3) 8 (absC M) = _
    rw [show M 19 3 = u2 from by omega]
    exact yp5 h0
  have a2 : Im (M 18 1 = 0) (th2 (dC M) (absC M) = absC M12) := fun h0 => by
    unfold th2
    rw [a1 h0]
    show numB 0 (M 19 1 - 1) _ _ = _
    rw [show M 19 1 - 1 = (u1 - 1) from by omega]
    exact (numB_v (fun g0 g1 q1 q2 => (congrArg (fun D => d_h D _) (show dC M4 = dC M from dC_fr fp5 (by decide))).symm.trans (yp10 _ q1 (by omega)).symm)).trans yp13.1
  have a4 : Im (M 18 1 = 0) (th4 (dC M) (absC M) = absC M17) := fun h0 => by
    unfold th4
    rw [a2 h0, yp15]
    exact yp18.1
  have cut70 : ∀ (y20 : Int) (M19 : Mem), Inv M19 → WFk M19 → Fr [18, 19, 23, 24, 25, 26] M M19 → (-1) ≤ y20 → y20 ≤ 9 → (M19 18 6 ≤ M19 18 5 ∧ M19 18 5 ≤ M19 18 4 ∧ M19 18 7 ≤ 4 * (M19 18 5 - M19 18 6)) → (M19 18 4 = M 18 4) → (M19 19 3 = M 19 3) → (Fx0 M17 M19) → (M 18 6 ≤ M19 18 6) → (M19 19 1 = M 19 1) → (Im (M 18 1 = 0) (th5 (dC M) (absC M) = absC M19)) → (dC M19 = dC M) → Z D cy ad p l e (RMh 9) s m args below meth c A 7 0 0 Q 70 [(0, .ref (ad 18)), (1, ii v11), (2, ii v16), (3, ii y20)] [] M19 := by
    intro y20 M19 hI hW hF ay20 by20 j70_0 j70_1 j70_2 j70_3 j70_4 j70_5 j70_6 j70_7
    have cut92 : ∀ (y22 : Int) (M21 : Mem), Inv M21 → WFk M21 → Fr [18, 19, 23, 24, 25, 26] M M21 → (-1) ≤ y22 → y22 ≤ 9 → (M21 18 6 ≤ M21 18 5 ∧ M21 18 5 ≤ M21 18 4 ∧ M21 18 7 ≤ 4 * (M21 18 5 - M21 18 6)) → (M21 18 4 = M 18 4) → (M21 19 3 = M 19 3) → (Fx0 M19 M21) → (M 18 6 ≤ M21 18 6) → (M21 19 1 = M 19 1) → (Im (M 18 1 = 0) (th6 (dC M) (absC M) = absC M21)) → (dC M21 = dC M) → Z D cy ad p l e (RMh 9) s m args below meth c A 7 0 0 Q 92 [(0, .ref (ad 18)), (1, ii v11), (2, ii v16), (3, ii y20), (4, ii y22)] [] M21 := by
      intro y22 M21 hI hW hF ay22 by22 j92_0 j92_1 j92_2 j92_3 j92_4 j92_5 j92_6 j92_7
      refine z_aload_n F dX6_readThing_92 rfl (q := 0) rfl ?_
      refine z_ldcS (j := 9) F dX6_readThing_93 rfl rfl rfl ?_
      refine z_eq (st' := [.ref (ad 1009), .ref (ad 18)]) rfl rfl rfl ?_
      refine zv_i (rest := []) F (kp_X6_takeWord_18_1009 l M21 ⟨hI, hW⟩ (by omega)) cs_X6_144 (T := TX6) (N := 9) (ci := 6) rfl gs_18 (by decide) (by decide) rfl rfl rfl (Nat.le_of_ble_eq_true rfl) dX6_readThing_95 (fun v23 M24 rv23 hI p25 => ?_)
      obtain ⟨hI, hW⟩ := hI
      obtain ⟨⟨av23, bv23⟩, fp25, xp25, yp25⟩ := p25
      have hF := hF.call fp25 (by decide)
      have tM24_19_1 : M24 19 1 = M21 19 1 := fp25.at (by decide)
      have tM24_19_3 : M24 19 3 = M21 19 3 := fp25.at (by decide)
      obtain ⟨qp25_0, qp25_1, qp25_2, qp25_3, qp25_4, qp25_5, qp25_6, qp25_7⟩ := xp25
      refine z_istore F dX6_readThing_98 (by decide) (ls' := [(5, ii v23), (0, .ref (ad 18)), (1, ii v11), (2, ii v16), (3, ii y20), (4, ii y22)]) rfl ?_
      refine z_aload_n F dX6_readThing_100 rfl (q := 1) rfl ?_
      refine gf_X6_36 F hI gs_18 rfl bd_18_1 dX6_readThing_101 (fun v26 ev26 av26 bv26 => ?_)
      refine z_if_ne (tgt := 199) F dX6_readThing_104 (by decide +kernel) (by omega) (fun c27 => ?_) (fun c27 => ?_)
      · exact hret _ 199 _ ⟨hI, hW⟩ ⟨hF, (by omega), (fun h0 => thing_7 (show th7 (dC M) (absC M) = absC M24 from by unfold th7; rw [j92_6 h0]; exact yp25.2) (fun q => by exfalso; have g9 := (vC_fl M24).symm.trans q; omega))⟩ dX6_readThing_199
      · refine z_aload_n F dX6_readThing_107 rfl (q := 1) rfl ?_
        refine rf_X6_12 F gs_18 rfl dX6_readThing_108 ?_
        refine gf_X6_181 F hI gs_19 rfl bd_19_3 dX6_readThing_111 (fun v28 ev28 av28 bv28 => ?_)
        have z29 : M24 18 1 = 0 := by omega
        have z30 : M21 18 1 = 0 := by omega
        have z31 : M19 18 1 = 0 := j92_3 z30
        have z32 : M17 18 1 = 0 := j70_3 z31
        have goqp18_6 := oqp18_6 z32
        have goqp18_6 := goqp18_6
        have z33 : M14 18 1 = 0 := oqp18_5 z32
        have z34 : M12 18 1 = 0 := oqp15_5 z33
        have goqp13_6 := oqp13_6 z34
        have goqp13_6 := goqp13_6
        have z35 : M4 18 1 = 0 := oqp13_5 z34
        have goqp5_6 := oqp5_6 z35
        have goqp5_6 := goqp5_6
        have z36 : M 18 1 = 0 := oqp5_5 z35
        have k37 : 0 ≤ v28 ∧ v28 ≤ 7 := by omega
        refine z_istore F dX6_readThing_114 (by decide) (ls' := [(6, ii v28), (5, ii v23), (0, .ref (ad 18)), (1, ii v11), (2, ii v16), (3, ii y20), (4, ii y22)]) rfl ?_
        refine z_aload_n F dX6_readThing_116 rfl (q := 2) rfl ?_
        refine rf_X6_12 F gs_18 rfl dX6_readThing_117 ?_
        refine rf_X6_195 F gs_19 rfl dX6_readThing_120 ?_
        refine z_iload F dX6_readThing_123 (q := 0) rfl ?_
        refine z_iload_n F dX6_readThing_125 rfl (q := 3) rfl ?_
        have k38 : 0 ≤ v11 ∧ v11 ≤ 9 := by omega
        refine z_iast F hI gs_23 (by omega) (by omega) (by decide) bd_23 dX6_readThing_126 (by omega) (by omega) (fun M40 hI sf39 f39 => ?_)
        have tM40_18_1 : M40 18 1 = M24 18 1 := f39 18 1 (fun q => absurd q.1 (by decide))
        have tM40_18_4 : M40 18 4 = M24 18 4 := f39 18 4 (fun q => absurd q.1 (by decide))
        have tM40_18_5 : M40 18 5 = M24 18 5 := f39 18 5 (fun q => absurd q.1 (by decide))
        have tM40_18_6 : M40 18 6 = M24 18 6 := f39 18 6 (fun q => absurd q.1 (by decide))
        have tM40_18_7 : M40 18 7 = M24 18 7 := f39 18 7 (fun q => absurd q.1 (by decide))
        have tM40_19_1 : M40 19 1 = M24 19 1 := f39 19 1 (fun q => absurd q.1 (by decide))
        have tM40_19_3 : M40 19 3 = M24 19 3 := f39 19 3 (fun q => absurd q.1 (by decide))
        have hF := hF.wr f39 (by decide) (by decide)
        have hW : WFk M40 := hW.site f39 (by decide)
        refine z_aload_n F dX6_readThing_127 rfl (q := 2) rfl ?_
        refine rf_X6_12 F gs_18 rfl dX6_readThing_128 ?_
        refine rf_X6_198 F gs_19 rfl dX6_readThing_131 ?_
        refine z_iload F dX6_readThing_134 (q := 0) rfl ?_
        refine z_iload_n F dX6_readThing_136 rfl (q := 4) rfl ?_
        refine z_iast F hI gs_24 (by omega) (by omega) (by decide) bd_24 dX6_readThing_137 (by omega) (by omega) (fun M42 hI sf41 f41 => ?_)
        have tM42_18_1 : M42 18 1 = M40 18 1 := f41 18 1 (fun q => absurd q.1 (by decide))
        have tM42_18_4 : M42 18 4 = M40 18 4 := f41 18 4 (fun q => absurd q.1 (by decide))
        have tM42_18_5 : M42 18 5 = M40 18 5 := f41 18 5 (fun q => absurd q.1 (by decide))
        have tM42_18_6 : M42 18 6 = M40 18 6 := f41 18 6 (fun q => absurd q.1 (by decide))
        have tM42_18_7 : M42 18 7 = M40 18 7 := f41 18 7 (fun q => absurd q.1 (by decide))
        have tM42_19_1 : M42 19 1 = M40 19 1 := f41 19 1 (fun q => absurd q.1 (by decide))
        have tM42_19_3 : M42 19 3 = M40 19 3 := f41 19 3 (fun q => absurd q.1 (by decide))
        have hF := hF.wr f41 (by decide) (by decide)
        have hW : WFk M42 := hW.site f41 (by decide)
        refine z_aload_n F dX6_readThing_138 rfl (q := 2) rfl ?_
        refine rf_X6_12 F gs_18 rfl dX6_readThing_139 ?_
        refine rf_X6_201 F gs_19 rfl dX6_readThing_142 ?_
        refine z_iload F dX6_readThing_145 (q := 0) rfl ?_
        refine z_iload_n F dX6_readThing_147 rfl (q := 5) rfl ?_
        refine z_iast F hI gs_25 (by omega) (by omega) (by decide) bd_25 dX6_readThing_148 (by omega) (by omega) (fun M44 hI sf43 f43 => ?_)
        have tM44_18_1 : M44 18 1 = M42 18 1 := f43 18 1 (fun q => absurd q.1 (by decide))
        have tM44_18_4 : M44 18 4 = M42 18 4 := f43 18 4 (fun q => absurd q.1 (by decide))
        have tM44_18_5 : M44 18 5 = M42 18 5 := f43 18 5 (fun q => absurd q.1 (by decide))
        have tM44_18_6 : M44 18 6 = M42 18 6 := f43 18 6 (fun q => absurd q.1 (by decide))
        have tM44_18_7 : M44 18 7 = M42 18 7 := f43 18 7 (fun q => absurd q.1 (by decide))
        have tM44_19_1 : M44 19 1 = M42 19 1 := f43 19 1 (fun q => absurd q.1 (by decide))
        have tM44_19_3 : M44 19 3 = M42 19 3 := f43 19 3 (fun q => absurd q.1 (by decide))
        have hF := hF.wr f43 (by decide) (by decide)
        have hW : WFk M44 := hW.site f43 (by decide)
        refine z_aload_n F dX6_readThing_149 rfl (q := 2) rfl ?_
        refine rf_X6_12 F gs_18 rfl dX6_readThing_150 ?_
        refine rf_X6_203 F gs_19 rfl dX6_readThing_153 ?_
        refine z_iload F dX6_readThing_156 (q := 0) rfl ?_
        refine z_iload F dX6_readThing_158 (q := 6) rfl ?_
        refine z_iast F hI gs_26 (by omega) (by omega) (by decide) bd_26 dX6_readThing_160 (by omega) (by omega) (fun M46 hI sf45 f45 => ?_)
        have tM46_18_1 : M46 18 1 = M44 18 1 := f45 18 1 (fun q => absurd q.1 (by decide))
        have tM46_18_4 : M46 18 4 = M44 18 4 := f45 18 4 (fun q => absurd q.1 (by decide))
        have tM46_18_5 : M46 18 5 = M44 18 5 := f45 18 5 (fun q => absurd q.1 (by decide))
        have tM46_18_6 : M46 18 6 = M44 18 6 := f45 18 6 (fun q => absurd q.1 (by decide))
        have tM46_18_7 : M46 18 7 = M44 18 7 := f45 18 7 (fun q => absurd q.1 (by decide))
        have tM46_19_1 : M46 19 1 = M44 19 1 := f45 19 1 (fun q => absurd q.1 (by decide))
        have tM46_19_3 : M46 19 3 = M44 19 3 := f45 19 3 (fun q => absurd q.1 (by decide))
        have hF := hF.wr f45 (by decide) (by decide)
        have hW : WFk M46 := hW.site f45 (by decide)
        refine z_aload_n F dX6_readThing_161 rfl (q := 2) rfl ?_
        refine rf_X6_12 F gs_18 rfl dX6_readThing_162 ?_
        refine z_dup F dX6_readThing_165 rfl ?_
        refine gf_X6_205 F hI gs_19 rfl bd_19_12 dX6_readThing_166 (fun v47 ev47 av47 bv47 => ?_)
        refine z_iload F dX6_readThing_169 (q := 1) rfl ?_
        refine z_if_eq (tgt := 181) F dX6_readThing_171 (by decide +kernel) (by omega) (fun c48 => ?_) (fun c48 => ?_)
        · refine z_iconst F dX6_readThing_181 ?_
          refine z_ior0 F dX6_readThing_182 (fun v49 ev49 rv49 => ?_)
          refine pf_X6_205 F hI gs_19 rfl bd_19_12 rfl rfl dX6_readThing_183 (by omega) (by omega) (fun M51 hI sf50 f50 => ?_)
          have tM51_18_1 : M51 18 1 = M46 18 1 := f50 18 1 (fun q => absurd q.1 (by decide))
          have tM51_18_4 : M51 18 4 = M46 18 4 := f50 18 4 (fun q => absurd q.1 (by decide))
          have tM51_18_5 : M51 18 5 = M46 18 5 := f50 18 5 (fun q => absurd q.1 (by decide))
          have tM51_18_6 : M51 18 6 = M46 18 6 := f50 18 6 (fun q => absurd q.1 (by decide))
          have tM51_18_7 : M51 18 7 = M46 18 7 := f50 18 7 (fun q => absurd q.1 (by decide))
          have tM51_19_1 : M51 19 1 = M46 19 1 := f50 19 1 (fun q => absurd q.2 (by decide))
          have tM51_19_3 : M51 19 3 = M46 19 3 := f50 19 3 (fun q => absurd q.2 (by decide))
          have hF := hF.wr f50 (by decide) (by decide)
          have hW : WFk M51 := hW.site f50 (by decide)
          refine z_aload_n F dX6_readThing_186 rfl (q := 2) rfl ?_
          refine rf_X6_12 F gs_18 rfl dX6_readThing_187 ?_
          refine z_dup F dX6_readThing_190 rfl ?_
          refine gf_X6_181 F hI gs_19 rfl bd_19_3 dX6_readThing_191 (fun v52 ev52 av52 bv52 => ?_)
          have q53 : v28 = M40 19 3 := ev28.trans (f39 19 3 (fun q => absurd q.1 (by decide))).symm
          have q54 : v28 = M42 19 3 := q53.trans (f41 19 3 (fun q => absurd q.1 (by decide))).symm
          have q55 : v28 = M44 19 3 := q54.trans (f43 19 3 (fun q => absurd q.1 (by decide))).symm
          have q56 : v28 = M46 19 3 := q55.trans (f45 19 3 (fun q => absurd q.1 (by decide))).symm
          have q57 : v28 = M51 19 3 := q56.trans (f50 19 3 (fun q => absurd q.2 (by decide))).symm
          have zv52 : v28 = v52 := q57.trans ev52.symm
          subst zv52
          refine z_iconst F dX6_readThing_194 ?_
          refine z_iadd F dX6_readThing_195 ?_
          refine z_nm (fun v58 ev58 => ?_)
          refine pf_X6_181 F hI gs_19 rfl bd_19_3 rfl rfl dX6_readThing_196 (by omega) (by omega) (fun M60 hI sf59 f59 => ?_)
          have tM60_18_1 : M60 18 1 = M51 18 1 := f59 18 1 (fun q => absurd q.1 (by decide))
          have tM60_18_4 : M60 18 4 = M51 18 4 := f59 18 4 (fun q => absurd q.1 (by decide))
          have tM60_18_5 : M60 18 5 = M51 18 5 := f59 18 5 (fun q => absurd q.1 (by decide))
          have tM60_18_6 : M60 18 6 = M51 18 6 := f59 18 6 (fun q => absurd q.1 (by decide))
          have tM60_18_7 : M60 18 7 = M51 18 7 := f59 18 7 (fun q => absurd q.1 (by decide))
          have tM60_19_1 : M60 19 1 = M51 19 1 := f59 19 1 (fun q => absurd q.2 (by decide))
          have hF := hF.wr f59 (by decide) (by decide)
          have hW : WFk M60 := hW.site f59 (by decide)
          have yy61 : Im (M 18 1 = 0) (tC M60 = thingF (absC M, dC M)) := fun h0 => by
            have p9 := yp13.2 (show M12 18 1 = 0 by omega)
            have dd : dC M60 = addN (dC M24) v11 := dC_thing (n := v28) (by omega) (by omega) (((f59 23 (v28).toNat (fun q => absurd q.1 (by decide))).trans ((f50 23 (v28).toNat (fun q => absurd q.1 (by decide))).trans ((f45 23 (v28).toNat (fun q => absurd q.1 (by decide))).trans ((f43 23 (v28).toNat (fun q => absurd q.1 (by decide))).trans (f41 23 (v28).toNat (fun q => absurd q.1 (by decide))))))).trans sf39) (fun b r1 => ((f59 23 b (fun q => absurd q.1 (by decide))).trans ((f50 23 b (fun q => absurd q.1 (by decide))).trans ((f45 23 b (fun q => absurd q.1 (by decide))).trans ((f43 23 b (fun q => absurd q.1 (by decide))).trans ((f41 23 b (fun q => absurd q.1 (by decide))).trans (f39 23 b (fun q => by have := q.2; omega)))))))) (show M60 19 3 = v28 + 1 from by omega) (fun b r1 => ((f59 19 b (fun q => by have := q.2; omega)).trans ((f50 19 b (fun q => by have := q.2; omega)).trans ((f45 19 b (fun q => absurd q.1 (by decide))).trans ((f43 19 b (fun q => absurd q.1 (by decide))).trans ((f41 19 b (fun q => absurd q.1 (by decide))).trans (f39 19 b (fun q => absurd q.1 (by decide))))))))) (fun a b r1 => ((f59 a b (fun q => by have h8 := q.1; have h9 := q.2; omega)).trans ((f50 a b (fun q => by have h8 := q.1; have h9 := q.2; omega)).trans ((f45 a b (fun q => by have h8 := q.1; have h9 := q.2; omega)).trans ((f43 a b (fun q => by have h8 := q.1; have h9 := q.2; omega)).trans ((f41 a b (fun q => by have h8 := q.1; have h9 := q.2; omega)).trans (f39 a b (fun q => by have h8 := q.1; have h9 := q.2; omega))))))))
            exact thing_7 ((show th7 (dC M) (absC M) = absC M24 from by unfold th7; rw [j92_6 h0]; exact yp25.2).trans (absC_eq (fun j => ((f59 18 j (fun q => absurd q.1 (by decide))).trans ((f50 18 j (fun q => absurd q.1 (by decide))).trans ((f45 18 j (fun q => absurd q.1 (by decide))).trans ((f43 18 j (fun q => absurd q.1 (by decide))).trans ((f41 18 j (fun q => absurd q.1 (by decide))).trans (f39 18 j (fun q => absurd q.1 (by decide))))))))) (fun j => ((f59 1 j (fun q => absurd q.1 (by decide))).trans ((f50 1 j (fun q => absurd q.1 (by decide))).trans ((f45 1 j (fun q => absurd q.1 (by decide))).trans ((f43 1 j (fun q => absurd q.1 (by decide))).trans ((f41 1 j (fun q => absurd q.1 (by decide))).trans (f39 1 j (fun q => absurd q.1 (by decide))))))))) : absC M60 = absC M24).symm) (fun q => by rw [dd, ((show dC M24 = dC M21 from dC_fr fp25 (by decide)).trans j92_7), a1 h0, ← p9])
          exact hret _ 199 _ ⟨hI, hW⟩ ⟨hF, (by omega), yy61⟩ dX6_readThing_199
        · refine z_iconst F dX6_readThing_174 ?_
          refine z_iload F dX6_readThing_175 (q := 0) rfl ?_
          refine z_shl1 (k := 7) F dX6_readThing_177 (by decide) (by omega) (by omega) (fun v62 ev62 av62 bv62 => ?_)
          refine z_goto (tgt := 182) F dX6_readThing_178 (by decide +kernel) ?_
          refine z_ior0 F dX6_readThing_182 (fun v63 ev63 rv63 => ?_)
          refine pf_X6_205 F hI gs_19 rfl bd_19_12 rfl rfl dX6_readThing_183 (by omega) (by omega) (fun M65 hI sf64 f64 => ?_)
          have tM65_18_1 : M65 18 1 = M46 18 1 := f64 18 1 (fun q => absurd q.1 (by decide))
          have tM65_18_4 : M65 18 4 = M46 18 4 := f64 18 4 (fun q => absurd q.1 (by decide))
          have tM65_18_5 : M65 18 5 = M46 18 5 := f64 18 5 (fun q => absurd q.1 (by decide))
          have tM65_18_6 : M65 18 6 = M46 18 6 := f64 18 6 (fun q => absurd q.1 (by decide))
          have tM65_18_7 : M65 18 7 = M46 18 7 := f64 18 7 (fun q => absurd q.1 (by decide))
          have tM65_19_1 : M65 19 1 = M46 19 1 := f64 19 1 (fun q => absurd q.2 (by decide))
          have tM65_19_3 : M65 19 3 = M46 19 3 := f64 19 3 (fun q => absurd q.2 (by decide))
          have hF := hF.wr f64 (by decide) (by decide)
          have hW : WFk M65 := hW.site f64 (by decide)
          refine z_aload_n F dX6_readThing_186 rfl (q := 2) rfl ?_
          refine rf_X6_12 F gs_18 rfl dX6_readThing_187 ?_
          refine z_dup F dX6_readThing_190 rfl ?_
          refine gf_X6_181 F hI gs_19 rfl bd_19_3 dX6_readThing_191 (fun v66 ev66 av66 bv66 => ?_)
          have q67 : v28 = M40 19 3 := ev28.trans (f39 19 3 (fun q => absurd q.1 (by decide))).symm
          have q68 : v28 = M42 19 3 := q67.trans (f41 19 3 (fun q => absurd q.1 (by decide))).symm
          have q69 : v28 = M44 19 3 := q68.trans (f43 19 3 (fun q => absurd q.1 (by decide))).symm
          have q70 : v28 = M46 19 3 := q69.trans (f45 19 3 (fun q => absurd q.1 (by decide))).symm
          have q71 : v28 = M65 19 3 := q70.trans (f64 19 3 (fun q => absurd q.2 (by decide))).symm
          have zv66 : v28 = v66 := q71.trans ev66.symm
          subst zv66
          refine z_iconst F dX6_readThing_194 ?_
          refine z_iadd F dX6_readThing_195 ?_
          refine z_nm (fun v72 ev72 => ?_)
          refine pf_X6_181 F hI gs_19 rfl bd_19_3 rfl rfl dX6_readThing_196 (by omega) (by omega) (fun M74 hI sf73 f73 => ?_)
          have tM74_18_1 : M74 18 1 = M65 18 1 := f73 18 1 (fun q => absurd q.1 (by decide))
          have tM74_18_4 : M74 18 4 = M65 18 4 := f73 18 4 (fun q => absurd q.1 (by decide))
          have tM74_18_5 : M74 18 5 = M65 18 5 := f73 18 5 (fun q => absurd q.1 (by decide))
          have tM74_18_6 : M74 18 6 = M65 18 6 := f73 18 6 (fun q => absurd q.1 (by decide))
          have tM74_18_7 : M74 18 7 = M65 18 7 := f73 18 7 (fun q => absurd q.1 (by decide))
          have tM74_19_1 : M74 19 1 = M65 19 1 := f73 19 1 (fun q => absurd q.2 (by decide))
          have hF := hF.wr f73 (by decide) (by decide)
          have hW : WFk M74 := hW.site f73 (by decide)
          have yy75 : Im (M 18 1 = 0) (tC M74 = thingF (absC M, dC M)) := fun h0 => by
            have p9 := yp13.2 (show M12 18 1 = 0 by omega)
            have dd : dC M74 = addN (dC M24) v11 := dC_thing (n := v28) (by omega) (by omega) (((f73 23 (v28).toNat (fun q => absurd q.1 (by decide))).trans ((f64 23 (v28).toNat (fun q => absurd q.1 (by decide))).trans ((f45 23 (v28).toNat (fun q => absurd q.1 (by decide))).trans ((f43 23 (v28).toNat (fun q => absurd q.1 (by decide))).trans (f41 23 (v28).toNat (fun q => absurd q.1 (by decide))))))).trans sf39) (fun b r1 => ((f73 23 b (fun q => absurd q.1 (by decide))).trans ((f64 23 b (fun q => absurd q.1 (by decide))).trans ((f45 23 b (fun q => absurd q.1 (by decide))).trans ((f43 23 b (fun q => absurd q.1 (by decide))).trans ((f41 23 b (fun q => absurd q.1 (by decide))).trans (f39 23 b (fun q => by have := q.2; omega)))))))) (show M74 19 3 = v28 + 1 from by omega) (fun b r1 => ((f73 19 b (fun q => by have := q.2; omega)).trans ((f64 19 b (fun q => by have := q.2; omega)).trans ((f45 19 b (fun q => absurd q.1 (by decide))).trans ((f43 19 b (fun q => absurd q.1 (by decide))).trans ((f41 19 b (fun q => absurd q.1 (by decide))).trans (f39 19 b (fun q => absurd q.1 (by decide))))))))) (fun a b r1 => ((f73 a b (fun q => by have h8 := q.1; have h9 := q.2; omega)).trans ((f64 a b (fun q => by have h8 := q.1; have h9 := q.2; omega)).trans ((f45 a b (fun q => by have h8 := q.1; have h9 := q.2; omega)).trans ((f43 a b (fun q => by have h8 := q.1; have h9 := q.2; omega)).trans ((f41 a b (fun q => by have h8 := q.1; have h9 := q.2; omega)).trans (f39 a b (fun q => by have h8 := q.1; have h9 := q.2; omega))))))))
            exact thing_7 ((show th7 (dC M) (absC M) = absC M24 from by unfold th7; rw [j92_6 h0]; exact yp25.2).trans (absC_eq (fun j => ((f73 18 j (fun q => absurd q.1 (by decide))).trans ((f64 18 j (fun q => absurd q.1 (by decide))).trans ((f45 18 j (fun q => absurd q.1 (by decide))).trans ((f43 18 j (fun q => absurd q.1 (by decide))).trans ((f41 18 j (fun q => absurd q.1 (by decide))).trans (f39 18 j (fun q => absurd q.1 (by decide))))))))) (fun j => ((f73 1 j (fun q => absurd q.1 (by decide))).trans ((f64 1 j (fun q => absurd q.1 (by decide))).trans ((f45 1 j (fun q => absurd q.1 (by decide))).trans ((f43 1 j (fun q => absurd q.1 (by decide))).trans ((f41 1 j (fun q => absurd q.1 (by decide))).trans (f39 1 j (fun q => absurd q.1 (by decide))))))))) : absC M74 = absC M24).symm) (fun q => by rw [dd, ((show dC M24 = dC M21 from dC_fr fp25 (by decide)).trans j92_7), a1 h0, ← p9])
          exact hret _ 199 _ ⟨hI, hW⟩ ⟨hF, (by omega), yy75⟩ dX6_readThing_199
    refine z_aload_n F dX6_readThing_70 rfl (q := 0) rfl ?_
    refine z_ldcS (j := 8) F dX6_readThing_71 rfl rfl rfl ?_
    refine z_eq (st' := [.ref (ad 1008), .ref (ad 18)]) rfl rfl rfl ?_
    refine zv_i (rest := []) F (kp_X6_takeWord_18_1008 l M19 ⟨hI, hW⟩ (by omega)) cs_X6_144 (T := TX6) (N := 9) (ci := 6) rfl gs_18 (by decide) (by decide) rfl rfl rfl (Nat.le_of_ble_eq_true rfl) dX6_readThing_73 (fun v76 M77 rv76 hI p78 => ?_)
    obtain ⟨hI, hW⟩ := hI
    obtain ⟨⟨av76, bv76⟩, fp78, xp78, yp78⟩ := p78
    have hF := hF.call fp78 (by decide)
    have tM77_19_1 : M77 19 1 = M19 19 1 := fp78.at (by decide)
    have tM77_19_3 : M77 19 3 = M19 19 3 := fp78.at (by decide)
    obtain ⟨qp78_0, qp78_1, qp78_2, qp78_3, qp78_4, qp78_5, qp78_6, qp78_7⟩ := xp78
    refine z_if_eq (tgt := 89) F dX6_readThing_76 (by decide +kernel) (by omega) (fun c79 => ?_) (fun c79 => ?_)
    · refine z_iconst F dX6_readThing_89 ?_
      refine z_istore F dX6_readThing_90 (by decide) (ls' := [(4, ii 1), (0, .ref (ad 18)), (1, ii v11), (2, ii v16), (3, ii y20)]) rfl ?_
      refine z_loc [1, 2, 3, 4, 0] (ls' := [(0, .ref (ad 18)), (1, ii v11), (2, ii v16), (3, ii y20), (4, ii 1)]) rfl ?_
      exact cut92 1 M77 hI hW hF (by omega) (by omega) (by omega) (by omega) (by omega) (Fx0.tr (Fx0.rf M19) (Fx0.eq qp78_5)) (by omega) (by omega) (fun h0 => by unfold th6; rw [j70_6 h0, opt_n (wz_f yp78.1 (by omega))]; exact (took_e (wz_f yp78.1 (by omega)) yp78.2).symm) ((show dC M77 = dC M19 from dC_fr fp78 (by decide)).trans j70_7)
    · refine z_aload_n F dX6_readThing_79 rfl (q := 0) rfl ?_
      refine z_iconst F dX6_readThing_80 ?_
      refine z_bipush F dX6_readThing_81 (by decide +kernel) ?_
      refine zv_i (rest := []) F (kp_X6_takeNumber_18 l M77 ⟨hI, hW⟩ 1 (by omega) (by omega) 9 (by omega) (by omega) (by omega)) cs_X6_110 (T := TX6) (N := 9) (ci := 6) rfl gs_18 (by decide) (by decide) rfl rfl rfl (Nat.le_of_ble_eq_true rfl) dX6_readThing_83 (fun v80 M81 rv80 hI p82 => ?_)
      obtain ⟨hI, hW⟩ := hI
      obtain ⟨⟨av80, bv80⟩, fp82, xp82, yp82⟩ := p82
      have hF := hF.call fp82 (by decide)
      have tM81_19_1 : M81 19 1 = M77 19 1 := fp82.at (by decide)
      have tM81_19_3 : M81 19 3 = M77 19 3 := fp82.at (by decide)
      have hkv80 : -1 ≤ v80 ∧ v80 ≤ 9 := by omega
      obtain ⟨qp82_0, qp82_1, qp82_2, qp82_3, qp82_4, qp82_5, qp82_6⟩ := xp82
      have oqp82_5 : Fx0 M77 M81 := qp82_5
      clear qp82_5
      have oqp82_6 : Ge0 M81 v80 := by unfold Ge0; omega
      clear qp82_6
      refine z_goto (tgt := 90) F dX6_readThing_86 (by decide +kernel) ?_
      refine z_istore F dX6_readThing_90 (by decide) (ls' := [(4, ii v80), (0, .ref (ad 18)), (1, ii v11), (2, ii v16), (3, ii y20)]) rfl ?_
      refine z_loc [1, 2, 3, 4, 0] (ls' := [(0, .ref (ad 18)), (1, ii v11), (2, ii v16), (3, ii y20), (4, ii v80)]) rfl ?_
      exact cut92 v80 M81 hI hW hF (by omega) (by omega) (by omega) (by omega) (by omega) (Fx0.tr (Fx0.tr (Fx0.rf M19) (Fx0.eq qp78_5)) oqp82_5) (by omega) (by omega) (fun h0 => by unfold th6; rw [j70_6 h0]; exact opt_t (wz_t yp78.1 (by omega)) (took_a (wz_t yp78.1 (by omega)) yp78.2) yp82.1) (((show dC M81 = dC M77 from dC_fr fp82 (by decide)).trans (show dC M77 = dC M19 from dC_fr fp78 (by decide))).trans j70_7)
  refine z_aload_n F dX6_readThing_49 rfl (q := 2) rfl ?_
  refine z_ldcS (j := 7) F dX6_readThing_50 rfl rfl rfl ?_
  refine z_eq (st' := [.ref (ad 1007), .ref (ad 18)]) rfl rfl rfl ?_
  refine zv_i (rest := []) F (kp_X6_takeWord_18_1007 l M17 ⟨hI, hW⟩ (by omega)) cs_X6_144 (T := TX6) (N := 9) (ci := 6) rfl gs_18 (by decide) (by decide) rfl rfl rfl (Nat.le_of_ble_eq_true rfl) dX6_readThing_52 (fun v83 M84 rv83 hI p85 => ?_)
  obtain ⟨hI, hW⟩ := hI
  obtain ⟨⟨av83, bv83⟩, fp85, xp85, yp85⟩ := p85
  have hF := hF.call fp85 (by decide)
  have tM84_19_1 : M84 19 1 = M17 19 1 := fp85.at (by decide)
  have tM84_19_3 : M84 19 3 = M17 19 3 := fp85.at (by decide)
  obtain ⟨qp85_0, qp85_1, qp85_2, qp85_3, qp85_4, qp85_5, qp85_6, qp85_7⟩ := xp85
  refine z_if_eq (tgt := 68) F dX6_readThing_55 (by decide +kernel) (by omega) (fun c86 => ?_) (fun c86 => ?_)
  · refine z_iconst F dX6_readThing_68 ?_
    refine z_istore_n F dX6_readThing_69 rfl (by decide) (ls' := [(3, ii 0), (2, ii v16), (1, ii v11), (0, .ref (ad 18))]) rfl ?_
    refine z_loc [3, 2, 1, 0] (ls' := [(0, .ref (ad 18)), (1, ii v11), (2, ii v16), (3, ii 0)]) rfl ?_
    exact cut70 0 M84 hI hW hF (by omega) (by omega) (by omega) (by omega) (by omega) (Fx0.tr (Fx0.rf M17) (Fx0.eq qp85_5)) (by omega) (by omega) (fun h0 => by unfold th5; rw [a4 h0, opt_n (wz_f yp85.1 (by omega))]; exact (took_e (wz_f yp85.1 (by omega)) yp85.2).symm) ((show dC M84 = dC M17 from dC_fr fp85 (by decide)).trans ((show dC M17 = dC M14 from dC_fr fp18 (by decide)).trans ((show dC M14 = dC M12 from dC_fr fp15 (by decide)).trans ((show dC M12 = dC M4 from dC_fr fp13 (by decide)).trans (show dC M4 = dC M from dC_fr fp5 (by decide))))))
  · refine z_aload_n F dX6_readThing_58 rfl (q := 2) rfl ?_
    refine z_iconst F dX6_readThing_59 ?_
    refine z_bipush F dX6_readThing_60 (by decide +kernel) ?_
    refine zv_i (rest := []) F (kp_X6_takeNumber_18 l M84 ⟨hI, hW⟩ 0 (by omega) (by omega) 9 (by omega) (by omega) (by omega)) cs_X6_110 (T := TX6) (N := 9) (ci := 6) rfl gs_18 (by decide) (by decide) rfl rfl rfl (Nat.le_of_ble_eq_true rfl) dX6_readThing_62 (fun v87 M88 rv87 hI p89 => ?_)
    obtain ⟨hI, hW⟩ := hI
    obtain ⟨⟨av87, bv87⟩, fp89, xp89, yp89⟩ := p89
    have hF := hF.call fp89 (by decide)
    have tM88_19_1 : M88 19 1 = M84 19 1 := fp89.at (by decide)
    have tM88_19_3 : M88 19 3 = M84 19 3 := fp89.at (by decide)
    have hkv87 : -1 ≤ v87 ∧ v87 ≤ 9 := by omega
    obtain ⟨qp89_0, qp89_1, qp89_2, qp89_3, qp89_4, qp89_5, qp89_6⟩ := xp89
    have oqp89_5 : Fx0 M84 M88 := qp89_5
    clear qp89_5
    have oqp89_6 : Ge0 M88 v87 := by unfold Ge0; omega
    clear qp89_6
    refine z_goto (tgt := 69) F dX6_readThing_65 (by decide +kernel) ?_
    refine z_istore_n F dX6_readThing_69 rfl (by decide) (ls' := [(3, ii v87), (2, ii v16), (1, ii v11), (0, .ref (ad 18))]) rfl ?_
    refine z_loc [3, 2, 1, 0] (ls' := [(0, .ref (ad 18)), (1, ii v11), (2, ii v16), (3, ii v87)]) rfl ?_
    exact cut70 v87 M88 hI hW hF (by omega) (by omega) (by omega) (by omega) (by omega) (Fx0.tr (Fx0.tr (Fx0.rf M17) (Fx0.eq qp85_5)) oqp89_5) (by omega) (by omega) (fun h0 => by unfold th5; rw [a4 h0]; exact opt_t (wz_t yp85.1 (by omega)) (took_a (wz_t yp85.1 (by omega)) yp85.2) yp89.1) ((show dC M88 = dC M84 from dC_fr fp89 (by decide)).trans ((show dC M84 = dC M17 from dC_fr fp85 (by decide)).trans ((show dC M17 = dC M14 from dC_fr fp18 (by decide)).trans ((show dC M14 = dC M12 from dC_fr fp15 (by decide)).trans ((show dC M12 = dC M4 from dC_fr fp13 (by decide)).trans (show dC M4 = dC M from dC_fr fp5 (by decide)))))))
set_option maxHeartbeats 4000000 in
set_option maxRecDepth 4000 in
theorem kp_X6_takeWord_18_1004 (l : Launch) (M : Mem) (hJ : Iw M) (hp0 : M 18 6 ≤ M 18 5 ∧ M 18 5 ≤ M 18 4 ∧ M 18 7 ≤ 4 * (M 18 5 - M 18 6)) : CI l yX6_takeWord cX6_takeWord 3 (some .boolean) 7 (fun ad => [.ref (ad 18), .ref (ad 1004)]) M (fun z M' => (0 ≤ z ∧ z ≤ 1) ∧ Fr [18] M M' ∧ (M' 18 4 = M 18 4 ∧ M' 18 6 ≤ M' 18 5 ∧ M' 18 5 ≤ M' 18 4 ∧ M' 18 7 ≤ 4 * (M' 18 5 - M' 18 6) ∧ M 18 6 ≤ M' 18 6 ∧ M' 18 1 = M 18 1 ∧ M 18 6 + z ≤ M' 18 6 ∧ (z = 1 → M 18 1 = 0)) ∧ (WZ z (isW w_wall (absC M)) ∧ tookW w_wall (absC M) = absC M')) := by
  obtain ⟨hI, hW⟩ := hJ
  have hF : Fr [18] M M := Fr.rf
  refine en_z (by decide +kernel) (fun ad => by exact Nat.le_of_ble_eq_true rfl) (fun D cy ad A p e s m args below meth c Q F hret => ?_)
  refine z_eq (ls' := [(0, .ref (ad 18)), (1, .ref (ad 1004))]) rfl rfl rfl ?_
  refine z_aload_n F dX6_takeWord_0 rfl (q := 0) rfl ?_
  refine z_aload_n F dX6_takeWord_1 rfl (q := 1) rfl ?_
  refine zv_i (rest := []) F (kp_X6_isWord_18_1004 l M ⟨hI, hW⟩ (by omega)) cs_X6_86 (T := TX6) (N := 9) (ci := 6) rfl gs_18 (by decide) (by decide) rfl rfl rfl (Nat.le_of_ble_eq_true rfl) dX6_takeWord_2 (fun v1 M2 rv1 hI p3 => ?_)
  obtain ⟨hI, hW⟩ := hI
  obtain ⟨⟨av1, bv1⟩, rfl, xp3, yp3⟩ := p3
  refine z_istore_n F dX6_takeWord_5 rfl (by decide) (ls' := [(2, ii v1), (0, .ref (ad 18)), (1, .ref (ad 1004))]) rfl ?_
  refine z_iload_n F dX6_takeWord_6 rfl (q := 0) rfl ?_
  refine z_if_eq (tgt := 14) F dX6_takeWord_7 (by decide +kernel) (by omega) (fun c4 => ?_) (fun c4 => ?_)
  · refine z_iload_n F dX6_takeWord_14 rfl (q := 0) rfl ?_
    exact hret _ _ 15 _ ⟨by omega, by omega⟩ ⟨hI, hW⟩ ⟨⟨by omega, by omega⟩, hF, (by omega), ⟨yp3, took_f (wz_f yp3 (by omega))⟩⟩ dX6_takeWord_15
  · refine z_aload_n F dX6_takeWord_10 rfl (q := 1) rfl ?_
    refine zv_v (rest := []) F (kp_X6_advance_18 l M ⟨hI, hW⟩ (by omega)) cs_X6_42 (T := TX6) (N := 9) (ci := 6) rfl gs_18 (by decide) (by decide) rfl rfl rfl (Nat.le_of_ble_eq_true rfl) dX6_takeWord_11 (fun M5 hI p6 => ?_)
    obtain ⟨hI, hW⟩ := hI
    obtain ⟨fp6, xp6, yp6⟩ := p6
    have hF := hF.call fp6 (by decide)
    refine z_iload_n F dX6_takeWord_14 rfl (q := 0) rfl ?_
    exact hret _ _ 15 _ ⟨by omega, by omega⟩ ⟨hI, hW⟩ ⟨⟨by omega, by omega⟩, hF, (by omega), ⟨yp3, took_t (wz_t yp3 (by omega)) (yp6 (by omega))⟩⟩ dX6_takeWord_15
set_option maxRecDepth 4000 in
theorem k_X9_join_19 (l : Launch) (M : Mem) (hJ : Iw M) (x0 : Int) (hx0a : 0 ≤ x0) (hx0b : x0 ≤ 9) (x1 : Int) (hx1a : 0 ≤ x1) (hx1b : x1 ≤ 9) (x2 : Int) (hx2a : 0 ≤ x2) (hx2b : x2 ≤ 1) : CV l yX9_join cX9_join 4 none 1 (fun ad => [.ref (ad 19), ii x0, ii x1, ii x2]) M (fun M' => Fr [19, 20, 21] M M' ∧ (Im (x0 ≤ M 19 1 - 1) (Im (x1 ≤ M 19 1 - 1) (dC M' = addT (dC M) x0 x1)))) := by
  obtain ⟨hI, hW⟩ := hJ
  have hF : Fr [19, 20, 21] M M := Fr.rf
  have hI0 := hI
  have hW0 := hW
  refine en_v (by decide +kernel) (fun ad => by exact Nat.le_of_ble_eq_true rfl) (fun D cy ad A p e s m args below meth c Q F hret => ?_)
  refine z_eq (ls' := [(0, .ref (ad 19)), (1, ii x0), (2, ii x1), (3, ii x2)]) rfl rfl rfl ?_
  obtain ⟨u1, eu1⟩ : ∃ v : Int, v = M 19 2 := ⟨_, rfl⟩
  have ku1 : (-2147483648) ≤ u1 ∧ u1 ≤ 2147483647 := by have := hI.at (show Bd 19 2 = (-2147483648, 2147483647) from rfl); omega
  refine z_aload_n F dX9_join_0 rfl (q := 0) rfl ?_
  refine rf_X9_9 F gs_19 rfl dX9_join_1 ?_
  refine z_iload_n F dX9_join_4 rfl (q := 1) rfl ?_
  refine z_dup2 F dX9_join_5 rfl rfl ?_
  refine z_iald F hI gs_20 (by omega) (by omega) (by decide) bd_20 dX9_join_6 (fun v2 (ev2 : v2 = M 20 _) av2 bv2 => ?_)
  refine z_iconst F dX9_join_7 ?_
  refine z_iload_n F dX9_join_8 rfl (q := 2) rfl ?_
  refine z_shl1 (k := 9) F dX9_join_9 (by decide) (by omega) (by omega) (fun v3 ev3 av3 bv3 => ?_)
  refine z_ior0 F dX9_join_10 (fun v4 ev4 rv4 => ?_)
  refine z_iast F hI gs_20 (by omega) (by omega) (by decide) bd_20 dX9_join_11 (by omega) (by omega) (fun M6 hI sf5 f5 => ?_)
  have hF := hF.wr f5 (by decide) (by decide)
  have hW : WFk M6 := hW.site f5 (by decide)
  refine z_aload_n F dX9_join_12 rfl (q := 0) rfl ?_
  refine rf_X9_9 F gs_19 rfl dX9_join_13 ?_
  refine z_iload_n F dX9_join_16 rfl (q := 2) rfl ?_
  refine z_dup2 F dX9_join_17 rfl rfl ?_
  refine z_iald F hI gs_20 (by omega) (by omega) (by decide) bd_20 dX9_join_18 (fun v7 (ev7 : v7 = M6 20 _) av7 bv7 => ?_)
  refine z_iconst F dX9_join_19 ?_
  refine z_iload_n F dX9_join_20 rfl (q := 1) rfl ?_
  refine z_shl1 (k := 9) F dX9_join_21 (by decide) (by omega) (by omega) (fun v8 ev8 av8 bv8 => ?_)
  refine z_ior0 F dX9_join_22 (fun v9 ev9 rv9 => ?_)
  refine z_iast F hI gs_20 (by omega) (by omega) (by decide) bd_20 dX9_join_23 (by omega) (by omega) (fun M11 hI sf10 f10 => ?_)
  have hF := hF.wr f10 (by decide) (by decide)
  have hW : WFk M11 := hW.site f10 (by decide)
  refine z_iload_n F dX9_join_24 rfl (q := 3) rfl ?_
  refine z_if_eq (tgt := 52) F dX9_join_25 (by decide +kernel) (by omega) (fun c12 => ?_) (fun c12 => ?_)
  · refine z_aload_n F dX9_join_52 rfl (q := 0) rfl ?_
    refine z_dup F dX9_join_53 rfl ?_
    refine gf_X9_59 F hI gs_19 rfl bd_19_2 dX9_join_54 (fun v13 ev13 av13 bv13 => ?_)
    have q14 : u1 = M6 19 2 := eu1.trans (f5 19 2 (fun q => absurd q.1 (by decide))).symm
    have q15 : u1 = M11 19 2 := q14.trans (f10 19 2 (fun q => absurd q.1 (by decide))).symm
    have zv13 : u1 = v13 := q15.trans ev13.symm
    subst zv13
    refine z_iconst F dX9_join_57 ?_
    refine z_iadd F dX9_join_58 ?_
    refine z_wrap (fun v16 rv16 wv16 => ?_)
    refine pf_X9_59 F hI gs_19 rfl bd_19_2 rfl rfl dX9_join_59 (by omega) (by omega) (fun M18 hI sf17 f17 => ?_)
    have hF := hF.wr f17 (by decide) (by decide)
    have hW : WFk M18 := hW.site f17 (by decide)
    exact hret _ 62 _ ⟨hI, hW⟩ ⟨hF, (fun h1 h2 => dC_touch (hI0.at (show Bd 19 1 = (0, 10) from rfl)).2 (by omega) h1 (by omega) h2 ev2 ev3 ev4 sf5 f5 ev7 ev8 ev9 ((f17 20 (x1).toNat (fun q => absurd q.1 (by decide))).trans sf10) (fun b hb => (f17 20 b (fun q => absurd q.1 (by decide))).trans (f10 20 b (fun q => hb q.2))) (sf17.trans (by rw [wr_eq rv16 wv16.2, show u1 = M 19 2 from by omega])) (fun b hb => ((f17 19 b (fun q => by have := q.2; omega)).trans ((f10 19 b (fun q => absurd q.1 (by decide))).trans (f5 19 b (fun q => absurd q.1 (by decide)))))) (fun a b hq => ((f17 a b (fun q => by have h8 := q.1; have h9 := q.2; omega)).trans ((f10 a b (fun q => by have h8 := q.1; have h9 := q.2; omega)).trans (f5 a b (fun q => by have h8 := q.1; have h9 := q.2; omega))))))⟩ dX9_join_62
  · refine z_aload_n F dX9_join_28 rfl (q := 0) rfl ?_
    refine rf_X9_15 F gs_19 rfl dX9_join_29 ?_
    refine z_iload_n F dX9_join_32 rfl (q := 1) rfl ?_
    refine z_dup2 F dX9_join_33 rfl rfl ?_
    refine z_iald F hI gs_21 (by omega) (by omega) (by decide) bd_21 dX9_join_34 (fun v19 (ev19 : v19 = M11 21 _) av19 bv19 => ?_)
    refine z_iconst F dX9_join_35 ?_
    refine z_iload_n F dX9_join_36 rfl (q := 2) rfl ?_
    refine z_shl1 (k := 9) F dX9_join_37 (by decide) (by omega) (by omega) (fun v20 ev20 av20 bv20 => ?_)
    refine z_ior0 F dX9_join_38 (fun v21 ev21 rv21 => ?_)
    refine z_iast F hI gs_21 (by omega) (by omega) (by decide) bd_21 dX9_join_39 (by omega) (by omega) (fun M23 hI sf22 f22 => ?_)
    have hF := hF.wr f22 (by decide) (by decide)
    have hW : WFk M23 := hW.site f22 (by decide)
    refine z_aload_n F dX9_join_40 rfl (q := 0) rfl ?_
    refine rf_X9_15 F gs_19 rfl dX9_join_41 ?_
    refine z_iload_n F dX9_join_44 rfl (q := 2) rfl ?_
    refine z_dup2 F dX9_join_45 rfl rfl ?_
    refine z_iald F hI gs_21 (by omega) (by omega) (by decide) bd_21 dX9_join_46 (fun v24 (ev24 : v24 = M23 21 _) av24 bv24 => ?_)
    refine z_iconst F dX9_join_47 ?_
    refine z_iload_n F dX9_join_48 rfl (q := 1) rfl ?_
    refine z_shl1 (k := 9) F dX9_join_49 (by decide) (by omega) (by omega) (fun v25 ev25 av25 bv25 => ?_)
    refine z_ior0 F dX9_join_50 (fun v26 ev26 rv26 => ?_)
    refine z_iast F hI gs_21 (by omega) (by omega) (by decide) bd_21 dX9_join_51 (by omega) (by omega) (fun M28 hI sf27 f27 => ?_)
    have hF := hF.wr f27 (by decide) (by decide)
    have hW : WFk M28 := hW.site f27 (by decide)
    refine z_aload_n F dX9_join_52 rfl (q := 0) rfl ?_
    refine z_dup F dX9_join_53 rfl ?_
    refine gf_X9_59 F hI gs_19 rfl bd_19_2 dX9_join_54 (fun v29 ev29 av29 bv29 => ?_)
    have q30 : u1 = M6 19 2 := eu1.trans (f5 19 2 (fun q => absurd q.1 (by decide))).symm
    have q31 : u1 = M11 19 2 := q30.trans (f10 19 2 (fun q => absurd q.1 (by decide))).symm
    have q32 : u1 = M23 19 2 := q31.trans (f22 19 2 (fun q => absurd q.1 (by decide))).symm
    have q33 : u1 = M28 19 2 := q32.trans (f27 19 2 (fun q => absurd q.1 (by decide))).symm
    have zv29 : u1 = v29 := q33.trans ev29.symm
    subst zv29
    refine z_iconst F dX9_join_57 ?_
    refine z_iadd F dX9_join_58 ?_
    refine z_wrap (fun v34 rv34 wv34 => ?_)
    refine pf_X9_59 F hI gs_19 rfl bd_19_2 rfl rfl dX9_join_59 (by omega) (by omega) (fun M36 hI sf35 f35 => ?_)
    have hF := hF.wr f35 (by decide) (by decide)
    have hW : WFk M36 := hW.site f35 (by decide)
    exact hret _ 62 _ ⟨hI, hW⟩ ⟨hF, (fun h1 h2 => dC_touch (hI0.at (show Bd 19 1 = (0, 10) from rfl)).2 (by omega) h1 (by omega) h2 ev2 ev3 ev4 sf5 f5 ev7 ev8 ev9 (((f35 20 (x1).toNat (fun q => absurd q.1 (by decide))).trans ((f27 20 (x1).toNat (fun q => absurd q.1 (by decide))).trans (f22 20 (x1).toNat (fun q => absurd q.1 (by decide))))).trans sf10) (fun b hb => ((f35 20 b (fun q => absurd q.1 (by decide))).trans ((f27 20 b (fun q => absurd q.1 (by decide))).trans (f22 20 b (fun q => absurd q.1 (by decide))))).trans (f10 20 b (fun q => hb q.2))) (sf35.trans (by rw [wr_eq rv34 wv34.2, show u1 = M 19 2 from by omega])) (fun b hb => ((f35 19 b (fun q => by have := q.2; omega)).trans ((f27 19 b (fun q => absurd q.1 (by decide))).trans ((f22 19 b (fun q => absurd q.1 (by decide))).trans ((f10 19 b (fun q => absurd q.1 (by decide))).trans (f5 19 b (fun q => absurd q.1 (by decide)))))))) (fun a b hq => ((f35 a b (fun q => by have h8 := q.1; have h9 := q.2; omega)).trans ((f27 a b (fun q => by have h8 := q.1; have h9 := q.2; omega)).trans ((f22 a b (fun q => by have h8 := q.1; have h9 := q.2; omega)).trans ((f10 a b (fun q => by have h8 := q.1; have h9 := q.2; omega)).trans (f5 a b (fun q => by have h8 := q.1; have h9 := q.2; omega))))))))⟩ dX9_join_62
