theorem dX12_readThing_0 : decode cX12_readThing 0 = .ok (.aload_n 0, 1) := by decide +kernel
theorem dX12_readThing_1 : decode cX12_readThing 1 = .ok (.iconst 2, 1) := by decide +kernel
theorem dX12_readThing_10 : decode cX12_readThing 10 = .ok (.return_, 1) := by decide +kernel
theorem dX12_readThing_101 : decode cX12_readThing 101 = .ok (.invokevirtual 199, 3) := by decide +kernel
theorem dX12_readThing_104 : decode cX12_readThing 104 = .ok (.goto 4, 3) := by decide +kernel
theorem dX12_readThing_107 : decode cX12_readThing 107 = .ok (.iconst 1, 1) := by decide +kernel
theorem dX12_readThing_108 : decode cX12_readThing 108 = .ok (.istore 4, 2) := by decide +kernel
theorem dX12_readThing_11 : decode cX12_readThing 11 = .ok (.aload_n 0, 1) := by decide +kernel
theorem dX12_readThing_110 : decode cX12_readThing 110 = .ok (.aload_n 0, 1) := by decide +kernel
theorem dX12_readThing_111 : decode cX12_readThing 111 = .ok (.ldc 223, 2) := by decide +kernel
theorem dX12_readThing_113 : decode cX12_readThing 113 = .ok (.invokevirtual 130, 3) := by decide +kernel
theorem dX12_readThing_116 : decode cX12_readThing 116 = .ok (.istore 5, 2) := by decide +kernel
theorem dX12_readThing_118 : decode cX12_readThing 118 = .ok (.aload_n 0, 1) := by decide +kernel
theorem dX12_readThing_119 : decode cX12_readThing 119 = .ok (.getfield 108, 3) := by decide +kernel
theorem dX12_readThing_12 : decode cX12_readThing 12 = .ok (.getfield 88, 3) := by decide +kernel
theorem dX12_readThing_122 : decode cX12_readThing 122 = .ok (.ifCond .eq 4, 3) := by decide +kernel
theorem dX12_readThing_125 : decode cX12_readThing 125 = .ok (.return_, 1) := by decide +kernel
theorem dX12_readThing_126 : decode cX12_readThing 126 = .ok (.aload_n 0, 1) := by decide +kernel
theorem dX12_readThing_127 : decode cX12_readThing 127 = .ok (.getfield 13, 3) := by decide +kernel
theorem dX12_readThing_130 : decode cX12_readThing 130 = .ok (.iconst 2, 1) := by decide +kernel
theorem dX12_readThing_131 : decode cX12_readThing 131 = .ok (.iaload, 1) := by decide +kernel
theorem dX12_readThing_132 : decode cX12_readThing 132 = .ok (.istore 6, 2) := by decide +kernel
theorem dX12_readThing_134 : decode cX12_readThing 134 = .ok (.aload_n 0, 1) := by decide +kernel
theorem dX12_readThing_135 : decode cX12_readThing 135 = .ok (.getfield 13, 3) := by decide +kernel
theorem dX12_readThing_138 : decode cX12_readThing 138 = .ok (.bipush 8, 2) := by decide +kernel
theorem dX12_readThing_140 : decode cX12_readThing 140 = .ok (.iload 6, 2) := by decide +kernel
theorem dX12_readThing_142 : decode cX12_readThing 142 = .ok (.iadd, 1) := by decide +kernel
theorem dX12_readThing_143 : decode cX12_readThing 143 = .ok (.iload_n 1, 1) := by decide +kernel
theorem dX12_readThing_144 : decode cX12_readThing 144 = .ok (.iastore, 1) := by decide +kernel
theorem dX12_readThing_145 : decode cX12_readThing 145 = .ok (.aload_n 0, 1) := by decide +kernel
theorem dX12_readThing_146 : decode cX12_readThing 146 = .ok (.getfield 13, 3) := by decide +kernel
theorem dX12_readThing_149 : decode cX12_readThing 149 = .ok (.bipush 16, 2) := by decide +kernel
theorem dX12_readThing_15 : decode cX12_readThing 15 = .ok (.iconst 2, 1) := by decide +kernel
theorem dX12_readThing_151 : decode cX12_readThing 151 = .ok (.iload 6, 2) := by decide +kernel
theorem dX12_readThing_153 : decode cX12_readThing 153 = .ok (.iadd, 1) := by decide +kernel
theorem dX12_readThing_154 : decode cX12_readThing 154 = .ok (.iload_n 2, 1) := by decide +kernel
theorem dX12_readThing_155 : decode cX12_readThing 155 = .ok (.iastore, 1) := by decide +kernel
theorem dX12_readThing_156 : decode cX12_readThing 156 = .ok (.aload_n 0, 1) := by decide +kernel
theorem dX12_readThing_157 : decode cX12_readThing 157 = .ok (.getfield 13, 3) := by decide +kernel
theorem dX12_readThing_16 : decode cX12_readThing 16 = .ok (.if_icmp .ne 23, 3) := by decide +kernel
theorem dX12_readThing_160 : decode cX12_readThing 160 = .ok (.bipush 26, 2) := by decide +kernel
theorem dX12_readThing_162 : decode cX12_readThing 162 = .ok (.iload 6, 2) := by decide +kernel
theorem dX12_readThing_164 : decode cX12_readThing 164 = .ok (.iadd, 1) := by decide +kernel
theorem dX12_readThing_165 : decode cX12_readThing 165 = .ok (.iload_n 3, 1) := by decide +kernel
theorem dX12_readThing_166 : decode cX12_readThing 166 = .ok (.iastore, 1) := by decide +kernel
theorem dX12_readThing_167 : decode cX12_readThing 167 = .ok (.aload_n 0, 1) := by decide +kernel
theorem dX12_readThing_168 : decode cX12_readThing 168 = .ok (.getfield 13, 3) := by decide +kernel
theorem dX12_readThing_171 : decode cX12_readThing 171 = .ok (.bipush 34, 2) := by decide +kernel
theorem dX12_readThing_173 : decode cX12_readThing 173 = .ok (.iload 6, 2) := by decide +kernel
theorem dX12_readThing_175 : decode cX12_readThing 175 = .ok (.iadd, 1) := by decide +kernel
theorem dX12_readThing_176 : decode cX12_readThing 176 = .ok (.iload 4, 2) := by decide +kernel
theorem dX12_readThing_178 : decode cX12_readThing 178 = .ok (.iastore, 1) := by decide +kernel
theorem dX12_readThing_179 : decode cX12_readThing 179 = .ok (.aload_n 0, 1) := by decide +kernel
theorem dX12_readThing_180 : decode cX12_readThing 180 = .ok (.getfield 13, 3) := by decide +kernel
theorem dX12_readThing_183 : decode cX12_readThing 183 = .ok (.bipush 42, 2) := by decide +kernel
theorem dX12_readThing_185 : decode cX12_readThing 185 = .ok (.iload 6, 2) := by decide +kernel
theorem dX12_readThing_187 : decode cX12_readThing 187 = .ok (.iadd, 1) := by decide +kernel
theorem dX12_readThing_188 : decode cX12_readThing 188 = .ok (.iload 5, 2) := by decide +kernel
theorem dX12_readThing_19 : decode cX12_readThing 19 = .ok (.aload_n 0, 1) := by decide +kernel
theorem dX12_readThing_190 : decode cX12_readThing 190 = .ok (.ifCond .eq 7, 3) := by decide +kernel
theorem dX12_readThing_193 : decode cX12_readThing 193 = .ok (.iconst 1, 1) := by decide +kernel
theorem dX12_readThing_194 : decode cX12_readThing 194 = .ok (.goto 4, 3) := by decide +kernel
theorem dX12_readThing_197 : decode cX12_readThing 197 = .ok (.iconst 0, 1) := by decide +kernel
theorem dX12_readThing_198 : decode cX12_readThing 198 = .ok (.iastore, 1) := by decide +kernel
theorem dX12_readThing_199 : decode cX12_readThing 199 = .ok (.aload_n 0, 1) := by decide +kernel
theorem dX12_readThing_2 : decode cX12_readThing 2 = .ok (.bipush 8, 2) := by decide +kernel
theorem dX12_readThing_20 : decode cX12_readThing 20 = .ok (.getfield 13, 3) := by decide +kernel
theorem dX12_readThing_200 : decode cX12_readThing 200 = .ok (.getfield 13, 3) := by decide +kernel
theorem dX12_readThing_203 : decode cX12_readThing 203 = .ok (.iconst 2, 1) := by decide +kernel
theorem dX12_readThing_204 : decode cX12_readThing 204 = .ok (.dup2, 1) := by decide +kernel
theorem dX12_readThing_205 : decode cX12_readThing 205 = .ok (.iaload, 1) := by decide +kernel
theorem dX12_readThing_206 : decode cX12_readThing 206 = .ok (.iconst 1, 1) := by decide +kernel
theorem dX12_readThing_207 : decode cX12_readThing 207 = .ok (.iadd, 1) := by decide +kernel
theorem dX12_readThing_208 : decode cX12_readThing 208 = .ok (.iastore, 1) := by decide +kernel
theorem dX12_readThing_209 : decode cX12_readThing 209 = .ok (.return_, 1) := by decide +kernel
theorem dX12_readThing_23 : decode cX12_readThing 23 = .ok (.aload_n 0, 1) := by decide +kernel
theorem dX12_readThing_24 : decode cX12_readThing 24 = .ok (.getfield 102, 3) := by decide +kernel
theorem dX12_readThing_27 : decode cX12_readThing 27 = .ok (.invokestatic 209, 3) := by decide +kernel
theorem dX12_readThing_30 : decode cX12_readThing 30 = .ok (.iconst (-1), 1) := by decide +kernel
theorem dX12_readThing_31 : decode cX12_readThing 31 = .ok (.if_icmp .eq 8, 3) := by decide +kernel
theorem dX12_readThing_34 : decode cX12_readThing 34 = .ok (.aload_n 0, 1) := by decide +kernel
theorem dX12_readThing_35 : decode cX12_readThing 35 = .ok (.iconst 3, 1) := by decide +kernel
theorem dX12_readThing_36 : decode cX12_readThing 36 = .ok (.invokevirtual 133, 3) := by decide +kernel
theorem dX12_readThing_39 : decode cX12_readThing 39 = .ok (.aload_n 0, 1) := by decide +kernel
theorem dX12_readThing_4 : decode cX12_readThing 4 = .ok (.invokevirtual 203, 3) := by decide +kernel
theorem dX12_readThing_40 : decode cX12_readThing 40 = .ok (.iconst 0, 1) := by decide +kernel
theorem dX12_readThing_41 : decode cX12_readThing 41 = .ok (.aload_n 0, 1) := by decide +kernel
theorem dX12_readThing_42 : decode cX12_readThing 42 = .ok (.getfield 13, 3) := by decide +kernel
theorem dX12_readThing_45 : decode cX12_readThing 45 = .ok (.iconst 1, 1) := by decide +kernel
theorem dX12_readThing_46 : decode cX12_readThing 46 = .ok (.iaload, 1) := by decide +kernel
theorem dX12_readThing_47 : decode cX12_readThing 47 = .ok (.iconst 1, 1) := by decide +kernel
theorem dX12_readThing_48 : decode cX12_readThing 48 = .ok (.isub, 1) := by decide +kernel
theorem dX12_readThing_49 : decode cX12_readThing 49 = .ok (.invokevirtual 199, 3) := by decide +kernel
theorem dX12_readThing_52 : decode cX12_readThing 52 = .ok (.istore_n 1, 1) := by decide +kernel
theorem dX12_readThing_53 : decode cX12_readThing 53 = .ok (.aload_n 0, 1) := by decide +kernel
theorem dX12_readThing_54 : decode cX12_readThing 54 = .ok (.ldc 213, 2) := by decide +kernel
theorem dX12_readThing_56 : decode cX12_readThing 56 = .ok (.invokevirtual 215, 3) := by decide +kernel
theorem dX12_readThing_59 : decode cX12_readThing 59 = .ok (.aload_n 0, 1) := by decide +kernel
theorem dX12_readThing_60 : decode cX12_readThing 60 = .ok (.iconst 0, 1) := by decide +kernel
theorem dX12_readThing_61 : decode cX12_readThing 61 = .ok (.bipush 99, 2) := by decide +kernel
theorem dX12_readThing_63 : decode cX12_readThing 63 = .ok (.invokevirtual 199, 3) := by decide +kernel
theorem dX12_readThing_66 : decode cX12_readThing 66 = .ok (.istore_n 2, 1) := by decide +kernel
theorem dX12_readThing_67 : decode cX12_readThing 67 = .ok (.aload_n 0, 1) := by decide +kernel
theorem dX12_readThing_68 : decode cX12_readThing 68 = .ok (.ldc 219, 2) := by decide +kernel
theorem dX12_readThing_7 : decode cX12_readThing 7 = .ok (.ifCond .ne 4, 3) := by decide +kernel
theorem dX12_readThing_70 : decode cX12_readThing 70 = .ok (.invokevirtual 130, 3) := by decide +kernel
theorem dX12_readThing_73 : decode cX12_readThing 73 = .ok (.ifCond .eq 13, 3) := by decide +kernel
theorem dX12_readThing_76 : decode cX12_readThing 76 = .ok (.aload_n 0, 1) := by decide +kernel
theorem dX12_readThing_77 : decode cX12_readThing 77 = .ok (.iconst 0, 1) := by decide +kernel
theorem dX12_readThing_78 : decode cX12_readThing 78 = .ok (.bipush 9, 2) := by decide +kernel
theorem dX12_readThing_80 : decode cX12_readThing 80 = .ok (.invokevirtual 199, 3) := by decide +kernel
theorem dX12_readThing_83 : decode cX12_readThing 83 = .ok (.goto 4, 3) := by decide +kernel
theorem dX12_readThing_86 : decode cX12_readThing 86 = .ok (.iconst 0, 1) := by decide +kernel
theorem dX12_readThing_87 : decode cX12_readThing 87 = .ok (.istore_n 3, 1) := by decide +kernel
theorem dX12_readThing_88 : decode cX12_readThing 88 = .ok (.aload_n 0, 1) := by decide +kernel
theorem dX12_readThing_89 : decode cX12_readThing 89 = .ok (.ldc 221, 2) := by decide +kernel
theorem dX12_readThing_91 : decode cX12_readThing 91 = .ok (.invokevirtual 130, 3) := by decide +kernel
theorem dX12_readThing_94 : decode cX12_readThing 94 = .ok (.ifCond .eq 13, 3) := by decide +kernel
theorem dX12_readThing_97 : decode cX12_readThing 97 = .ok (.aload_n 0, 1) := by decide +kernel
theorem dX12_readThing_98 : decode cX12_readThing 98 = .ok (.iconst 1, 1) := by decide +kernel
theorem dX12_readThing_99 : decode cX12_readThing 99 = .ok (.bipush 9, 2) := by decide +kernel
set_option maxRecDepth 4000 in
theorem kp_X12_readThing (l : Launch) (M : Mem) (hJ : Iw M) (hp0 : M 131 9 ≤ M 131 8 ∧ M 131 8 ≤ M 131 7 ∧ (M 131 10 = 0 ∨ M 131 9 < M 131 8)) (hp1 : M 133 6 ≤ M 131 9) (hp2 : Wl M) (hp3 : M 131 16 = 0) : CV l yX12_readThing cX12_readThing 7 none 8 (fun ad => [.ref (ad 131)]) M (fun M' => Fr [131, 133] M M' ∧ (Wl M' ∧ M' 131 7 = M 131 7 ∧ M' 131 16 = M 131 16 ∧ M 131 9 ≤ M' 131 9 ∧ M' 131 9 ≤ M' 131 8 ∧ M' 131 8 ≤ M' 131 7 ∧ (M' 131 10 = 0 ∨ M' 131 9 < M' 131 8) ∧ M' 133 6 = M 133 6 ∧ M' 133 1 = M 133 1 ∧ (M' 131 12 = 0 → M 131 12 = 0))) := by
  obtain ⟨hI, hW⟩ := hJ
  have hF : Fr [131, 133] M M := Fr.rf
  refine en_v (by decide +kernel) (fun ad => by exact Nat.le_of_ble_eq_true rfl) (fun D cy ad A p e s m args below meth c Q F hret => ?_)
  refine z_eq (ls' := [(0, .ref (ad 131))]) rfl rfl rfl ?_
  have hL := hp2
  refine z_aload_n F dX12_readThing_0 rfl (q := 0) rfl ?_
  refine z_iconst F dX12_readThing_1 ?_
  refine z_bipush F dX12_readThing_2 (by decide +kernel) ?_
  refine zv_i (rest := []) F (kp_X12_begins l M ⟨hI, hW⟩ 2 (by omega) (by omega) 8 (by omega) (by omega) (by omega)) cs_X12_203 (T := TX12) (N := 44) (ci := 12) rfl gs_131 (by decide) (by decide) rfl rfl rfl (Nat.le_of_ble_eq_true rfl) dX12_readThing_4 (fun v1 M2 rv1 hI p3 => ?_)
  obtain ⟨hI, hW⟩ := hI
  obtain ⟨⟨av1, bv1⟩, fp3, xp3⟩ := p3
  have hF := hF.call fp3 (by decide)
  have tM2_133_6 : M2 133 6 = M 133 6 := fp3.at (by decide)
  have tM2_133_1 : M2 133 1 = M 133 1 := fp3.at (by decide)
  have tM2_133_2 : M2 133 2 = M 133 2 := fp3.at (by decide)
  have tM2_133_4 : M2 133 4 = M 133 4 := fp3.at (by decide)
  have hq9 := wl_fr fp3 (by decide)
  have hL := hq9.2 hL
  have cM2 := hq9.1
  clear hq9
  have hbv1 : M 133 (2 : Int).toNat = M 133 2 := rfl
  refine z_if_ne (tgt := 11) F dX12_readThing_7 (by decide +kernel) (by omega) (fun c4 => ?_) (fun c4 => ?_)
  · refine z_aload_n F dX12_readThing_11 rfl (q := 0) rfl ?_
    refine gf_X12_88 F hI gs_131 rfl bd_131_10 dX12_readThing_12 (fun v5 ev5 av5 bv5 => ?_)
    refine z_iconst F dX12_readThing_15 ?_
    refine z_icmp_ne (tgt := 39) F dX12_readThing_16 (by decide +kernel) (by omega) (by omega) (fun c6 => ?_) (fun c6 => ?_)
    · refine z_aload_n F dX12_readThing_39 rfl (q := 0) rfl ?_
      refine z_iconst F dX12_readThing_40 ?_
      refine z_aload_n F dX12_readThing_41 rfl (q := 0) rfl ?_
      refine rf_X12_13 F gs_131 rfl dX12_readThing_42 ?_
      refine z_iconst F dX12_readThing_45 ?_
      refine z_iald F hI gs_133 (by omega) (by omega) (by decide) (show Bd 133 1 = (0, 10) from rfl) dX12_readThing_46 (fun v7 (ev7 : v7 = M2 133 1) av7 bv7 => ?_)
      refine z_iconst F dX12_readThing_47 ?_
      refine z_isub F dX12_readThing_48 ?_
      refine zv_i (rest := []) F (kp_X12_number l M2 ⟨hI, hW⟩ 0 (by omega) (by omega) (v7 - 1) (by omega) (by omega) (by omega)) cs_X12_199 (T := TX12) (N := 44) (ci := 12) rfl gs_131 (by decide) (by decide) rfl rfl rfl (Nat.le_of_ble_eq_true rfl) dX12_readThing_49 (fun v8 M9 rv8 hI p10 => ?_)
      obtain ⟨hI, hW⟩ := hI
      obtain ⟨⟨av8, bv8⟩, fp10, xp10⟩ := p10
      have hF := hF.call fp10 (by decide)
      have tM9_133_6 : M9 133 6 = M2 133 6 := fp10.at (by decide)
      have tM9_133_1 : M9 133 1 = M2 133 1 := fp10.at (by decide)
      have tM9_133_2 : M9 133 2 = M2 133 2 := fp10.at (by decide)
      have tM9_133_4 : M9 133 4 = M2 133 4 := fp10.at (by decide)
      have hq9 := wl_fr fp10 (by decide)
      have hL := hq9.2 hL
      have cM9 := hq9.1
      clear hq9
      have hkv8 : 0 ≤ v8 ∧ v8 ≤ 9 := by omega
      refine z_istore_n F dX12_readThing_52 rfl (by decide) (ls' := [(1, ii v8), (0, .ref (ad 131))]) rfl ?_
      refine z_aload_n F dX12_readThing_53 rfl (q := 1) rfl ?_
      refine z_ldcS (j := 61) F dX12_readThing_54 rfl rfl rfl ?_
      refine z_eq (st' := [.ref (ad 1061), .ref (ad 131)]) rfl rfl rfl ?_
      refine zv_v (rest := []) F (kp_X12_mustWord_131_1061 l M9 ⟨hI, hW⟩ (by omega)) cs_X12_215 (T := TX12) (N := 44) (ci := 12) rfl gs_131 (by decide) (by decide) rfl rfl rfl (Nat.le_of_ble_eq_true rfl) dX12_readThing_56 (fun M11 hI p12 => ?_)
      obtain ⟨hI, hW⟩ := hI
      obtain ⟨fp12, xp12⟩ := p12
      have hF := hF.call fp12 (by decide)
      have tM11_133_6 : M11 133 6 = M9 133 6 := fp12.at (by decide)
      have tM11_133_1 : M11 133 1 = M9 133 1 := fp12.at (by decide)
      have tM11_133_2 : M11 133 2 = M9 133 2 := fp12.at (by decide)
      have tM11_133_4 : M11 133 4 = M9 133 4 := fp12.at (by decide)
      have hq9 := wl_fr fp12 (by decide)
      have hL := hq9.2 hL
      have cM11 := hq9.1
      clear hq9
      refine z_aload_n F dX12_readThing_59 rfl (q := 1) rfl ?_
      refine z_iconst F dX12_readThing_60 ?_
      refine z_bipush F dX12_readThing_61 (by decide +kernel) ?_
      refine zv_i (rest := []) F (kp_X12_number l M11 ⟨hI, hW⟩ 0 (by omega) (by omega) 99 (by omega) (by omega) (by omega)) cs_X12_199 (T := TX12) (N := 44) (ci := 12) rfl gs_131 (by decide) (by decide) rfl rfl rfl (Nat.le_of_ble_eq_true rfl) dX12_readThing_63 (fun v13 M14 rv13 hI p15 => ?_)
      obtain ⟨hI, hW⟩ := hI
      obtain ⟨⟨av13, bv13⟩, fp15, xp15⟩ := p15
      have hF := hF.call fp15 (by decide)
      have tM14_133_6 : M14 133 6 = M11 133 6 := fp15.at (by decide)
      have tM14_133_1 : M14 133 1 = M11 133 1 := fp15.at (by decide)
      have tM14_133_2 : M14 133 2 = M11 133 2 := fp15.at (by decide)
      have tM14_133_4 : M14 133 4 = M11 133 4 := fp15.at (by decide)
      have hq9 := wl_fr fp15 (by decide)
      have hL := hq9.2 hL
      have cM14 := hq9.1
      clear hq9
      have hkv13 : 0 ≤ v13 ∧ v13 ≤ 99 := by omega
      refine z_istore_n F dX12_readThing_66 rfl (by decide) (ls' := [(2, ii v13), (1, ii v8), (0, .ref (ad 131))]) rfl ?_
      refine z_aload_n F dX12_readThing_67 rfl (q := 2) rfl ?_
      refine z_ldcS (j := 62) F dX12_readThing_68 rfl rfl rfl ?_
      refine z_eq (st' := [.ref (ad 1062), .ref (ad 131)]) rfl rfl rfl ?_
      refine zv_i (rest := []) F (kp_X12_took_131_1062 l M14 ⟨hI, hW⟩ (by omega)) cs_X12_130 (T := TX12) (N := 44) (ci := 12) rfl gs_131 (by decide) (by decide) rfl rfl rfl (Nat.le_of_ble_eq_true rfl) dX12_readThing_70 (fun v16 M17 rv16 hI p18 => ?_)
      obtain ⟨hI, hW⟩ := hI
      obtain ⟨⟨av16, bv16⟩, fp18, xp18⟩ := p18
      have hF := hF.call fp18 (by decide)
      have tM17_133_6 : M17 133 6 = M14 133 6 := fp18.at (by decide)
      have tM17_133_1 : M17 133 1 = M14 133 1 := fp18.at (by decide)
      have tM17_133_2 : M17 133 2 = M14 133 2 := fp18.at (by decide)
      have tM17_133_4 : M17 133 4 = M14 133 4 := fp18.at (by decide)
      have hq9 := wl_fr fp18 (by decide)
      have hL := hq9.2 hL
      have cM17 := hq9.1
      clear hq9
      refine z_if_eq (tgt := 86) F dX12_readThing_73 (by decide +kernel) (by omega) (fun c19 => ?_) (fun c19 => ?_)
      · refine z_iconst F dX12_readThing_86 ?_
        refine z_istore_n F dX12_readThing_87 rfl (by decide) (ls' := [(3, ii 0), (2, ii v13), (1, ii v8), (0, .ref (ad 131))]) rfl ?_
        refine z_aload_n F dX12_readThing_88 rfl (q := 3) rfl ?_
        refine z_ldcS (j := 63) F dX12_readThing_89 rfl rfl rfl ?_
        refine z_eq (st' := [.ref (ad 1063), .ref (ad 131)]) rfl rfl rfl ?_
        refine zv_i (rest := []) F (kp_X12_took_131_1063 l M17 ⟨hI, hW⟩ (by omega)) cs_X12_130 (T := TX12) (N := 44) (ci := 12) rfl gs_131 (by decide) (by decide) rfl rfl rfl (Nat.le_of_ble_eq_true rfl) dX12_readThing_91 (fun v20 M21 rv20 hI p22 => ?_)
        obtain ⟨hI, hW⟩ := hI
        obtain ⟨⟨av20, bv20⟩, fp22, xp22⟩ := p22
        have hF := hF.call fp22 (by decide)
        have tM21_133_6 : M21 133 6 = M17 133 6 := fp22.at (by decide)
        have tM21_133_1 : M21 133 1 = M17 133 1 := fp22.at (by decide)
        have tM21_133_2 : M21 133 2 = M17 133 2 := fp22.at (by decide)
        have tM21_133_4 : M21 133 4 = M17 133 4 := fp22.at (by decide)
        have hq9 := wl_fr fp22 (by decide)
        have hL := hq9.2 hL
        have cM21 := hq9.1
        clear hq9
        refine z_if_eq (tgt := 107) F dX12_readThing_94 (by decide +kernel) (by omega) (fun c23 => ?_) (fun c23 => ?_)
        · refine z_iconst F dX12_readThing_107 ?_
          refine z_istore F dX12_readThing_108 (by decide) (ls' := [(4, ii 1), (3, ii 0), (2, ii v13), (1, ii v8), (0, .ref (ad 131))]) rfl ?_
          refine z_aload_n F dX12_readThing_110 rfl (q := 4) rfl ?_
          refine z_ldcS (j := 64) F dX12_readThing_111 rfl rfl rfl ?_
          refine z_eq (st' := [.ref (ad 1064), .ref (ad 131)]) rfl rfl rfl ?_
          refine zv_i (rest := []) F (kp_X12_took_131_1064 l M21 ⟨hI, hW⟩ (by omega)) cs_X12_130 (T := TX12) (N := 44) (ci := 12) rfl gs_131 (by decide) (by decide) rfl rfl rfl (Nat.le_of_ble_eq_true rfl) dX12_readThing_113 (fun v24 M25 rv24 hI p26 => ?_)
          obtain ⟨hI, hW⟩ := hI
          obtain ⟨⟨av24, bv24⟩, fp26, xp26⟩ := p26
          have hF := hF.call fp26 (by decide)
          have tM25_133_6 : M25 133 6 = M21 133 6 := fp26.at (by decide)
          have tM25_133_1 : M25 133 1 = M21 133 1 := fp26.at (by decide)
          have tM25_133_2 : M25 133 2 = M21 133 2 := fp26.at (by decide)
          have tM25_133_4 : M25 133 4 = M21 133 4 := fp26.at (by decide)
          have hq9 := wl_fr fp26 (by decide)
          have hL := hq9.2 hL
          have cM25 := hq9.1
          clear hq9
          refine z_istore F dX12_readThing_116 (by decide) (ls' := [(5, ii v24), (4, ii 1), (3, ii 0), (2, ii v13), (1, ii v8), (0, .ref (ad 131))]) rfl ?_
          refine z_aload_n F dX12_readThing_118 rfl (q := 5) rfl ?_
          refine gf_X12_108 F hI gs_131 rfl bd_131_12 dX12_readThing_119 (fun v27 ev27 av27 bv27 => ?_)
          refine z_if_eq (tgt := 126) F dX12_readThing_122 (by decide +kernel) (by omega) (fun c28 => ?_) (fun c28 => ?_)
          · refine z_aload_n F dX12_readThing_126 rfl (q := 5) rfl ?_
            refine rf_X12_13 F gs_131 rfl dX12_readThing_127 ?_
            refine z_iconst F dX12_readThing_130 ?_
            refine z_iald F hI gs_133 (by omega) (by omega) (by decide) (show Bd 133 2 = (0, 8) from rfl) dX12_readThing_131 (fun v29 (ev29 : v29 = M25 133 2) av29 bv29 => ?_)
            have k30 : 0 ≤ v29 ∧ v29 ≤ 7 := by omega
            refine z_istore F dX12_readThing_132 (by decide) (ls' := [(6, ii v29), (5, ii v24), (4, ii 1), (3, ii 0), (2, ii v13), (1, ii v8), (0, .ref (ad 131))]) rfl ?_
            refine z_aload_n F dX12_readThing_134 rfl (q := 6) rfl ?_
            refine rf_X12_13 F gs_131 rfl dX12_readThing_135 ?_
            refine z_bipush F dX12_readThing_138 (by decide +kernel) ?_
            refine z_iload F dX12_readThing_140 (q := 0) rfl ?_
            refine z_iadd F dX12_readThing_142 ?_
            refine z_iload_n F dX12_readThing_143 rfl (q := 5) rfl ?_
            refine z_iast F hI gs_133 (by omega) (by omega) (by decide) (bd_133.trans (kn_at (by omega) (by omega))) dX12_readThing_144 (by omega) (by omega) (fun M32 hI sf31 f31 => ?_)
            have tM32_131_7 : M32 131 7 = M25 131 7 := f31 131 7 (fun q => absurd q.1 (by decide))
            have tM32_131_8 : M32 131 8 = M25 131 8 := f31 131 8 (fun q => absurd q.1 (by decide))
            have tM32_131_9 : M32 131 9 = M25 131 9 := f31 131 9 (fun q => absurd q.1 (by decide))
            have tM32_131_10 : M32 131 10 = M25 131 10 := f31 131 10 (fun q => absurd q.1 (by decide))
            have tM32_131_12 : M32 131 12 = M25 131 12 := f31 131 12 (fun q => absurd q.1 (by decide))
            have tM32_131_16 : M32 131 16 = M25 131 16 := f31 131 16 (fun q => absurd q.1 (by decide))
            have tM32_133_6 : M32 133 6 = M25 133 6 := f31 133 6 (fun q => by have := q.2; omega)
            have tM32_133_1 : M32 133 1 = M25 133 1 := f31 133 1 (fun q => by have := q.2; omega)
            have tM32_133_2 : M32 133 2 = M25 133 2 := f31 133 2 (fun q => by have := q.2; omega)
            have tM32_133_4 : M32 133 4 = M25 133 4 := f31 133 4 (fun q => by have := q.2; omega)
            have hq9 := wl_wr f31 (by omega)
            have hL := hq9.2 hL
            have cM32 := hq9.1
            clear hq9
            have hF := hF.wr f31 (by decide) (by decide)
            have hW : WFk M32 := hW.site f31 (by decide)
            refine z_aload_n F dX12_readThing_145 rfl (q := 6) rfl ?_
            refine rf_X12_13 F gs_131 rfl dX12_readThing_146 ?_
            refine z_bipush F dX12_readThing_149 (by decide +kernel) ?_
            refine z_iload F dX12_readThing_151 (q := 0) rfl ?_
            refine z_iadd F dX12_readThing_153 ?_
            refine z_iload_n F dX12_readThing_154 rfl (q := 4) rfl ?_
            refine z_iast F hI gs_133 (by omega) (by omega) (by decide) (bd_133.trans (kn_any (by omega) (by omega))) dX12_readThing_155 (by omega) (by omega) (fun M34 hI sf33 f33 => ?_)
            have tM34_131_7 : M34 131 7 = M32 131 7 := f33 131 7 (fun q => absurd q.1 (by decide))
            have tM34_131_8 : M34 131 8 = M32 131 8 := f33 131 8 (fun q => absurd q.1 (by decide))
            have tM34_131_9 : M34 131 9 = M32 131 9 := f33 131 9 (fun q => absurd q.1 (by decide))
            have tM34_131_10 : M34 131 10 = M32 131 10 := f33 131 10 (fun q => absurd q.1 (by decide))
            have tM34_131_12 : M34 131 12 = M32 131 12 := f33 131 12 (fun q => absurd q.1 (by decide))
            have tM34_131_16 : M34 131 16 = M32 131 16 := f33 131 16 (fun q => absurd q.1 (by decide))
            have tM34_133_6 : M34 133 6 = M32 133 6 := f33 133 6 (fun q => by have := q.2; omega)
            have tM34_133_1 : M34 133 1 = M32 133 1 := f33 133 1 (fun q => by have := q.2; omega)
            have tM34_133_2 : M34 133 2 = M32 133 2 := f33 133 2 (fun q => by have := q.2; omega)
            have tM34_133_4 : M34 133 4 = M32 133 4 := f33 133 4 (fun q => by have := q.2; omega)
            have hq9 := wl_wr f33 (by omega)
            have hL := hq9.2 hL
            have cM34 := hq9.1
            clear hq9
            have hF := hF.wr f33 (by decide) (by decide)
            have hW : WFk M34 := hW.site f33 (by decide)
            refine z_aload_n F dX12_readThing_156 rfl (q := 6) rfl ?_
            refine rf_X12_13 F gs_131 rfl dX12_readThing_157 ?_
            refine z_bipush F dX12_readThing_160 (by decide +kernel) ?_
            refine z_iload F dX12_readThing_162 (q := 0) rfl ?_
            refine z_iadd F dX12_readThing_164 ?_
            refine z_iload_n F dX12_readThing_165 rfl (q := 3) rfl ?_
            refine z_iast F hI gs_133 (by omega) (by omega) (by decide) (bd_133.trans (kn_any (by omega) (by omega))) dX12_readThing_166 (by omega) (by omega) (fun M36 hI sf35 f35 => ?_)
            have tM36_131_7 : M36 131 7 = M34 131 7 := f35 131 7 (fun q => absurd q.1 (by decide))
            have tM36_131_8 : M36 131 8 = M34 131 8 := f35 131 8 (fun q => absurd q.1 (by decide))
            have tM36_131_9 : M36 131 9 = M34 131 9 := f35 131 9 (fun q => absurd q.1 (by decide))
            have tM36_131_10 : M36 131 10 = M34 131 10 := f35 131 10 (fun q => absurd q.1 (by decide))
            have tM36_131_12 : M36 131 12 = M34 131 12 := f35 131 12 (fun q => absurd q.1 (by decide))
            have tM36_131_16 : M36 131 16 = M34 131 16 := f35 131 16 (fun q => absurd q.1 (by decide))
            have tM36_133_6 : M36 133 6 = M34 133 6 := f35 133 6 (fun q => by have := q.2; omega)
            have tM36_133_1 : M36 133 1 = M34 133 1 := f35 133 1 (fun q => by have := q.2; omega)
            have tM36_133_2 : M36 133 2 = M34 133 2 := f35 133 2 (fun q => by have := q.2; omega)
            have tM36_133_4 : M36 133 4 = M34 133 4 := f35 133 4 (fun q => by have := q.2; omega)
            have hq9 := wl_wr f35 (by omega)
            have hL := hq9.2 hL
            have cM36 := hq9.1
            clear hq9
            have hF := hF.wr f35 (by decide) (by decide)
            have hW : WFk M36 := hW.site f35 (by decide)
            refine z_aload_n F dX12_readThing_167 rfl (q := 6) rfl ?_
            refine rf_X12_13 F gs_131 rfl dX12_readThing_168 ?_
            refine z_bipush F dX12_readThing_171 (by decide +kernel) ?_
            refine z_iload F dX12_readThing_173 (q := 0) rfl ?_
            refine z_iadd F dX12_readThing_175 ?_
            refine z_iload F dX12_readThing_176 (q := 2) rfl ?_
            refine z_iast F hI gs_133 (by omega) (by omega) (by decide) (bd_133.trans (kn_any (by omega) (by omega))) dX12_readThing_178 (by omega) (by omega) (fun M38 hI sf37 f37 => ?_)
            have tM38_131_7 : M38 131 7 = M36 131 7 := f37 131 7 (fun q => absurd q.1 (by decide))
            have tM38_131_8 : M38 131 8 = M36 131 8 := f37 131 8 (fun q => absurd q.1 (by decide))
            have tM38_131_9 : M38 131 9 = M36 131 9 := f37 131 9 (fun q => absurd q.1 (by decide))
            have tM38_131_10 : M38 131 10 = M36 131 10 := f37 131 10 (fun q => absurd q.1 (by decide))
            have tM38_131_12 : M38 131 12 = M36 131 12 := f37 131 12 (fun q => absurd q.1 (by decide))
            have tM38_131_16 : M38 131 16 = M36 131 16 := f37 131 16 (fun q => absurd q.1 (by decide))
            have tM38_133_6 : M38 133 6 = M36 133 6 := f37 133 6 (fun q => by have := q.2; omega)
            have tM38_133_1 : M38 133 1 = M36 133 1 := f37 133 1 (fun q => by have := q.2; omega)
            have tM38_133_2 : M38 133 2 = M36 133 2 := f37 133 2 (fun q => by have := q.2; omega)
            have tM38_133_4 : M38 133 4 = M36 133 4 := f37 133 4 (fun q => by have := q.2; omega)
            have hq9 := wl_wr f37 (by omega)
            have hL := hq9.2 hL
            have cM38 := hq9.1
            clear hq9
            have hF := hF.wr f37 (by decide) (by decide)
            have hW : WFk M38 := hW.site f37 (by decide)
            refine z_aload_n F dX12_readThing_179 rfl (q := 6) rfl ?_
            refine rf_X12_13 F gs_131 rfl dX12_readThing_180 ?_
            refine z_bipush F dX12_readThing_183 (by decide +kernel) ?_
            refine z_iload F dX12_readThing_185 (q := 0) rfl ?_
            refine z_iadd F dX12_readThing_187 ?_
            refine z_iload F dX12_readThing_188 (q := 1) rfl ?_
            refine z_if_eq (tgt := 197) F dX12_readThing_190 (by decide +kernel) (by omega) (fun c39 => ?_) (fun c39 => ?_)
            · refine z_iconst F dX12_readThing_197 ?_
              refine z_iast F hI gs_133 (by omega) (by omega) (by decide) (bd_133.trans (kn_any (by omega) (by omega))) dX12_readThing_198 (by omega) (by omega) (fun M41 hI sf40 f40 => ?_)
              have tM41_131_7 : M41 131 7 = M38 131 7 := f40 131 7 (fun q => absurd q.1 (by decide))
              have tM41_131_8 : M41 131 8 = M38 131 8 := f40 131 8 (fun q => absurd q.1 (by decide))
              have tM41_131_9 : M41 131 9 = M38 131 9 := f40 131 9 (fun q => absurd q.1 (by decide))
              have tM41_131_10 : M41 131 10 = M38 131 10 := f40 131 10 (fun q => absurd q.1 (by decide))
              have tM41_131_12 : M41 131 12 = M38 131 12 := f40 131 12 (fun q => absurd q.1 (by decide))
              have tM41_131_16 : M41 131 16 = M38 131 16 := f40 131 16 (fun q => absurd q.1 (by decide))
              have tM41_133_6 : M41 133 6 = M38 133 6 := f40 133 6 (fun q => by have := q.2; omega)
              have tM41_133_1 : M41 133 1 = M38 133 1 := f40 133 1 (fun q => by have := q.2; omega)
              have tM41_133_2 : M41 133 2 = M38 133 2 := f40 133 2 (fun q => by have := q.2; omega)
              have tM41_133_4 : M41 133 4 = M38 133 4 := f40 133 4 (fun q => by have := q.2; omega)
              have hq9 := wl_wr f40 (by omega)
              have hL := hq9.2 hL
              have cM41 := hq9.1
              clear hq9
              have hF := hF.wr f40 (by decide) (by decide)
              have hW : WFk M41 := hW.site f40 (by decide)
              refine z_aload_n F dX12_readThing_199 rfl (q := 6) rfl ?_
              refine rf_X12_13 F gs_131 rfl dX12_readThing_200 ?_
              refine z_iconst F dX12_readThing_203 ?_
              refine z_dup2 F dX12_readThing_204 rfl rfl ?_
              refine z_iald F hI gs_133 (by omega) (by omega) (by decide) (show Bd 133 2 = (0, 8) from rfl) dX12_readThing_205 (fun v42 (ev42 : v42 = M41 133 2) av42 bv42 => ?_)
              have q43 : v29 = M32 133 2 := ev29.trans (f31 133 2 (fun q => by omega)).symm
              have q44 : v29 = M34 133 2 := q43.trans (f33 133 2 (fun q => by omega)).symm
              have q45 : v29 = M36 133 2 := q44.trans (f35 133 2 (fun q => by omega)).symm
              have q46 : v29 = M38 133 2 := q45.trans (f37 133 2 (fun q => by omega)).symm
              have q47 : v29 = M41 133 2 := q46.trans (f40 133 2 (fun q => by omega)).symm
              have zv42 : v29 = v42 := q47.trans ev42.symm
              subst zv42
              refine z_iconst F dX12_readThing_206 ?_
              refine z_iadd F dX12_readThing_207 ?_
              refine z_nm (fun v49 ev49 => ?_)
              refine z_iast F hI gs_133 (by omega) (by omega) (by decide) (show Bd 133 2 = (0, 8) from rfl) dX12_readThing_208 (by omega) (by omega) (fun M50 hI sf48 f48 => ?_)
              have tM50_131_7 : M50 131 7 = M41 131 7 := f48 131 7 (fun q => absurd q.1 (by decide))
              have tM50_131_8 : M50 131 8 = M41 131 8 := f48 131 8 (fun q => absurd q.1 (by decide))
              have tM50_131_9 : M50 131 9 = M41 131 9 := f48 131 9 (fun q => absurd q.1 (by decide))
              have tM50_131_10 : M50 131 10 = M41 131 10 := f48 131 10 (fun q => absurd q.1 (by decide))
              have tM50_131_12 : M50 131 12 = M41 131 12 := f48 131 12 (fun q => absurd q.1 (by decide))
              have tM50_131_16 : M50 131 16 = M41 131 16 := f48 131 16 (fun q => absurd q.1 (by decide))
              have tM50_133_6 : M50 133 6 = M41 133 6 := f48 133 6 (fun q => absurd q.2 (by decide))
              have tM50_133_1 : M50 133 1 = M41 133 1 := f48 133 1 (fun q => absurd q.2 (by decide))
              have tM50_133_4 : M50 133 4 = M41 133 4 := f48 133 4 (fun q => absurd q.2 (by decide))
              have hq9 := wl_wr f48 (by omega)
              have hL := hq9.2 hL
              have cM50 := hq9.1
              clear hq9
              have hF := hF.wr f48 (by decide) (by decide)
              have hW : WFk M50 := hW.site f48 (by decide)
              have sf48 : M50 133 2 = v49 := sf48
              exact hret _ 209 _ ⟨hI, hW⟩ ⟨hF, ⟨hL, by omega⟩⟩ dX12_readThing_209
            · refine z_iconst F dX12_readThing_193 ?_
              refine z_goto (tgt := 198) F dX12_readThing_194 (by decide +kernel) ?_
              refine z_iast F hI gs_133 (by omega) (by omega) (by decide) (bd_133.trans (kn_any (by omega) (by omega))) dX12_readThing_198 (by omega) (by omega) (fun M52 hI sf51 f51 => ?_)
              have tM52_131_7 : M52 131 7 = M38 131 7 := f51 131 7 (fun q => absurd q.1 (by decide))
              have tM52_131_8 : M52 131 8 = M38 131 8 := f51 131 8 (fun q => absurd q.1 (by decide))
              have tM52_131_9 : M52 131 9 = M38 131 9 := f51 131 9 (fun q => absurd q.1 (by decide))
              have tM52_131_10 : M52 131 10 = M38 131 10 := f51 131 10 (fun q => absurd q.1 (by decide))
              have tM52_131_12 : M52 131 12 = M38 131 12 := f51 131 12 (fun q => absurd q.1 (by decide))
              have tM52_131_16 : M52 131 16 = M38 131 16 := f51 131 16 (fun q => absurd q.1 (by decide))
              have tM52_133_6 : M52 133 6 = M38 133 6 := f51 133 6 (fun q => by have := q.2; omega)
              have tM52_133_1 : M52 133 1 = M38 133 1 := f51 133 1 (fun q => by have := q.2; omega)
              have tM52_133_2 : M52 133 2 = M38 133 2 := f51 133 2 (fun q => by have := q.2; omega)
              have tM52_133_4 : M52 133 4 = M38 133 4 := f51 133 4 (fun q => by have := q.2; omega)
              have hq9 := wl_wr f51 (by omega)
              have hL := hq9.2 hL
              have cM52 := hq9.1
              clear hq9
              have hF := hF.wr f51 (by decide) (by decide)
              have hW : WFk M52 := hW.site f51 (by decide)
              refine z_aload_n F dX12_readThing_199 rfl (q := 6) rfl ?_
              refine rf_X12_13 F gs_131 rfl dX12_readThing_200 ?_
              refine z_iconst F dX12_readThing_203 ?_
              refine z_dup2 F dX12_readThing_204 rfl rfl ?_
              refine z_iald F hI gs_133 (by omega) (by omega) (by decide) (show Bd 133 2 = (0, 8) from rfl) dX12_readThing_205 (fun v53 (ev53 : v53 = M52 133 2) av53 bv53 => ?_)
              have q54 : v29 = M32 133 2 := ev29.trans (f31 133 2 (fun q => by omega)).symm
              have q55 : v29 = M34 133 2 := q54.trans (f33 133 2 (fun q => by omega)).symm
              have q56 : v29 = M36 133 2 := q55.trans (f35 133 2 (fun q => by omega)).symm
              have q57 : v29 = M38 133 2 := q56.trans (f37 133 2 (fun q => by omega)).symm
              have q58 : v29 = M52 133 2 := q57.trans (f51 133 2 (fun q => by omega)).symm
              have zv53 : v29 = v53 := q58.trans ev53.symm
              subst zv53
              refine z_iconst F dX12_readThing_206 ?_
              refine z_iadd F dX12_readThing_207 ?_
              refine z_nm (fun v60 ev60 => ?_)
              refine z_iast F hI gs_133 (by omega) (by omega) (by decide) (show Bd 133 2 = (0, 8) from rfl) dX12_readThing_208 (by omega) (by omega) (fun M61 hI sf59 f59 => ?_)
              have tM61_131_7 : M61 131 7 = M52 131 7 := f59 131 7 (fun q => absurd q.1 (by decide))
              have tM61_131_8 : M61 131 8 = M52 131 8 := f59 131 8 (fun q => absurd q.1 (by decide))
              have tM61_131_9 : M61 131 9 = M52 131 9 := f59 131 9 (fun q => absurd q.1 (by decide))
              have tM61_131_10 : M61 131 10 = M52 131 10 := f59 131 10 (fun q => absurd q.1 (by decide))
              have tM61_131_12 : M61 131 12 = M52 131 12 := f59 131 12 (fun q => absurd q.1 (by decide))
              have tM61_131_16 : M61 131 16 = M52 131 16 := f59 131 16 (fun q => absurd q.1 (by decide))
              have tM61_133_6 : M61 133 6 = M52 133 6 := f59 133 6 (fun q => absurd q.2 (by decide))
              have tM61_133_1 : M61 133 1 = M52 133 1 := f59 133 1 (fun q => absurd q.2 (by decide))
              have tM61_133_4 : M61 133 4 = M52 133 4 := f59 133 4 (fun q => absurd q.2 (by decide))
              have hq9 := wl_wr f59 (by omega)
              have hL := hq9.2 hL
              have cM61 := hq9.1
              clear hq9
              have hF := hF.wr f59 (by decide) (by decide)
              have hW : WFk M61 := hW.site f59 (by decide)
              have sf59 : M61 133 2 = v60 := sf59
              exact hret _ 209 _ ⟨hI, hW⟩ ⟨hF, ⟨hL, by omega⟩⟩ dX12_readThing_209
          · exact hret _ 125 _ ⟨hI, hW⟩ ⟨hF, ⟨hL, by omega⟩⟩ dX12_readThing_125
        · refine z_aload_n F dX12_readThing_97 rfl (q := 3) rfl ?_
          refine z_iconst F dX12_readThing_98 ?_
          refine z_bipush F dX12_readThing_99 (by decide +kernel) ?_
          refine zv_i (rest := []) F (kp_X12_number l M21 ⟨hI, hW⟩ 1 (by omega) (by omega) 9 (by omega) (by omega) (by omega)) cs_X12_199 (T := TX12) (N := 44) (ci := 12) rfl gs_131 (by decide) (by decide) rfl rfl rfl (Nat.le_of_ble_eq_true rfl) dX12_readThing_101 (fun v62 M63 rv62 hI p64 => ?_)
          obtain ⟨hI, hW⟩ := hI
          obtain ⟨⟨av62, bv62⟩, fp64, xp64⟩ := p64
          have hF := hF.call fp64 (by decide)
          have tM63_133_6 : M63 133 6 = M21 133 6 := fp64.at (by decide)
          have tM63_133_1 : M63 133 1 = M21 133 1 := fp64.at (by decide)
          have tM63_133_2 : M63 133 2 = M21 133 2 := fp64.at (by decide)
          have tM63_133_4 : M63 133 4 = M21 133 4 := fp64.at (by decide)
          have hq9 := wl_fr fp64 (by decide)
          have hL := hq9.2 hL
          have cM63 := hq9.1
          clear hq9
          have hkv62 : 1 ≤ v62 ∧ v62 ≤ 9 := by omega
          refine z_goto (tgt := 108) F dX12_readThing_104 (by decide +kernel) ?_
          refine z_istore F dX12_readThing_108 (by decide) (ls' := [(4, ii v62), (3, ii 0), (2, ii v13), (1, ii v8), (0, .ref (ad 131))]) rfl ?_
          refine z_aload_n F dX12_readThing_110 rfl (q := 4) rfl ?_
          refine z_ldcS (j := 64) F dX12_readThing_111 rfl rfl rfl ?_
          refine z_eq (st' := [.ref (ad 1064), .ref (ad 131)]) rfl rfl rfl ?_
          refine zv_i (rest := []) F (kp_X12_took_131_1064 l M63 ⟨hI, hW⟩ (by omega)) cs_X12_130 (T := TX12) (N := 44) (ci := 12) rfl gs_131 (by decide) (by decide) rfl rfl rfl (Nat.le_of_ble_eq_true rfl) dX12_readThing_113 (fun v65 M66 rv65 hI p67 => ?_)
          obtain ⟨hI, hW⟩ := hI
          obtain ⟨⟨av65, bv65⟩, fp67, xp67⟩ := p67
          have hF := hF.call fp67 (by decide)
          have tM66_133_6 : M66 133 6 = M63 133 6 := fp67.at (by decide)
          have tM66_133_1 : M66 133 1 = M63 133 1 := fp67.at (by decide)
          have tM66_133_2 : M66 133 2 = M63 133 2 := fp67.at (by decide)
          have tM66_133_4 : M66 133 4 = M63 133 4 := fp67.at (by decide)
          have hq9 := wl_fr fp67 (by decide)
          have hL := hq9.2 hL
          have cM66 := hq9.1
          clear hq9
          refine z_istore F dX12_readThing_116 (by decide) (ls' := [(5, ii v65), (4, ii v62), (3, ii 0), (2, ii v13), (1, ii v8), (0, .ref (ad 131))]) rfl ?_
          refine z_aload_n F dX12_readThing_118 rfl (q := 5) rfl ?_
          refine gf_X12_108 F hI gs_131 rfl bd_131_12 dX12_readThing_119 (fun v68 ev68 av68 bv68 => ?_)
          refine z_if_eq (tgt := 126) F dX12_readThing_122 (by decide +kernel) (by omega) (fun c69 => ?_) (fun c69 => ?_)
          · refine z_aload_n F dX12_readThing_126 rfl (q := 5) rfl ?_
            refine rf_X12_13 F gs_131 rfl dX12_readThing_127 ?_
            refine z_iconst F dX12_readThing_130 ?_
            refine z_iald F hI gs_133 (by omega) (by omega) (by decide) (show Bd 133 2 = (0, 8) from rfl) dX12_readThing_131 (fun v70 (ev70 : v70 = M66 133 2) av70 bv70 => ?_)
            have k71 : 0 ≤ v70 ∧ v70 ≤ 7 := by omega
            refine z_istore F dX12_readThing_132 (by decide) (ls' := [(6, ii v70), (5, ii v65), (4, ii v62), (3, ii 0), (2, ii v13), (1, ii v8), (0, .ref (ad 131))]) rfl ?_
            refine z_aload_n F dX12_readThing_134 rfl (q := 6) rfl ?_
            refine rf_X12_13 F gs_131 rfl dX12_readThing_135 ?_
            refine z_bipush F dX12_readThing_138 (by decide +kernel) ?_
            refine z_iload F dX12_readThing_140 (q := 0) rfl ?_
            refine z_iadd F dX12_readThing_142 ?_
            refine z_iload_n F dX12_readThing_143 rfl (q := 5) rfl ?_
            refine z_iast F hI gs_133 (by omega) (by omega) (by decide) (bd_133.trans (kn_at (by omega) (by omega))) dX12_readThing_144 (by omega) (by omega) (fun M73 hI sf72 f72 => ?_)
            have tM73_131_7 : M73 131 7 = M66 131 7 := f72 131 7 (fun q => absurd q.1 (by decide))
            have tM73_131_8 : M73 131 8 = M66 131 8 := f72 131 8 (fun q => absurd q.1 (by decide))
            have tM73_131_9 : M73 131 9 = M66 131 9 := f72 131 9 (fun q => absurd q.1 (by decide))
            have tM73_131_10 : M73 131 10 = M66 131 10 := f72 131 10 (fun q => absurd q.1 (by decide))
            have tM73_131_12 : M73 131 12 = M66 131 12 := f72 131 12 (fun q => absurd q.1 (by decide))
            have tM73_131_16 : M73 131 16 = M66 131 16 := f72 131 16 (fun q => absurd q.1 (by decide))
            have tM73_133_6 : M73 133 6 = M66 133 6 := f72 133 6 (fun q => by have := q.2; omega)
            have tM73_133_1 : M73 133 1 = M66 133 1 := f72 133 1 (fun q => by have := q.2; omega)
            have tM73_133_2 : M73 133 2 = M66 133 2 := f72 133 2 (fun q => by have := q.2; omega)
            have tM73_133_4 : M73 133 4 = M66 133 4 := f72 133 4 (fun q => by have := q.2; omega)
            have hq9 := wl_wr f72 (by omega)
            have hL := hq9.2 hL
            have cM73 := hq9.1
            clear hq9
            have hF := hF.wr f72 (by decide) (by decide)
            have hW : WFk M73 := hW.site f72 (by decide)
            refine z_aload_n F dX12_readThing_145 rfl (q := 6) rfl ?_
            refine rf_X12_13 F gs_131 rfl dX12_readThing_146 ?_
            refine z_bipush F dX12_readThing_149 (by decide +kernel) ?_
            refine z_iload F dX12_readThing_151 (q := 0) rfl ?_
            refine z_iadd F dX12_readThing_153 ?_
            refine z_iload_n F dX12_readThing_154 rfl (q := 4) rfl ?_
            refine z_iast F hI gs_133 (by omega) (by omega) (by decide) (bd_133.trans (kn_any (by omega) (by omega))) dX12_readThing_155 (by omega) (by omega) (fun M75 hI sf74 f74 => ?_)
            have tM75_131_7 : M75 131 7 = M73 131 7 := f74 131 7 (fun q => absurd q.1 (by decide))
            have tM75_131_8 : M75 131 8 = M73 131 8 := f74 131 8 (fun q => absurd q.1 (by decide))
            have tM75_131_9 : M75 131 9 = M73 131 9 := f74 131 9 (fun q => absurd q.1 (by decide))
            have tM75_131_10 : M75 131 10 = M73 131 10 := f74 131 10 (fun q => absurd q.1 (by decide))
            have tM75_131_12 : M75 131 12 = M73 131 12 := f74 131 12 (fun q => absurd q.1 (by decide))
            have tM75_131_16 : M75 131 16 = M73 131 16 := f74 131 16 (fun q => absurd q.1 (by decide))
            have tM75_133_6 : M75 133 6 = M73 133 6 := f74 133 6 (fun q => by have := q.2; omega)
            have tM75_133_1 : M75 133 1 = M73 133 1 := f74 133 1 (fun q => by have := q.2; omega)
            have tM75_133_2 : M75 133 2 = M73 133 2 := f74 133 2 (fun q => by have := q.2; omega)
            have tM75_133_4 : M75 133 4 = M73 133 4 := f74 133 4 (fun q => by have := q.2; omega)
            have hq9 := wl_wr f74 (by omega)
            have hL := hq9.2 hL
            have cM75 := hq9.1
            clear hq9
            have hF := hF.wr f74 (by decide) (by decide)
            have hW : WFk M75 := hW.site f74 (by decide)
            refine z_aload_n F dX12_readThing_156 rfl (q := 6) rfl ?_
            refine rf_X12_13 F gs_131 rfl dX12_readThing_157 ?_
            refine z_bipush F dX12_readThing_160 (by decide +kernel) ?_
            refine z_iload F dX12_readThing_162 (q := 0) rfl ?_
            refine z_iadd F dX12_readThing_164 ?_
            refine z_iload_n F dX12_readThing_165 rfl (q := 3) rfl ?_
            refine z_iast F hI gs_133 (by omega) (by omega) (by decide) (bd_133.trans (kn_any (by omega) (by omega))) dX12_readThing_166 (by omega) (by omega) (fun M77 hI sf76 f76 => ?_)
            have tM77_131_7 : M77 131 7 = M75 131 7 := f76 131 7 (fun q => absurd q.1 (by decide))
            have tM77_131_8 : M77 131 8 = M75 131 8 := f76 131 8 (fun q => absurd q.1 (by decide))
            have tM77_131_9 : M77 131 9 = M75 131 9 := f76 131 9 (fun q => absurd q.1 (by decide))
            have tM77_131_10 : M77 131 10 = M75 131 10 := f76 131 10 (fun q => absurd q.1 (by decide))
            have tM77_131_12 : M77 131 12 = M75 131 12 := f76 131 12 (fun q => absurd q.1 (by decide))
            have tM77_131_16 : M77 131 16 = M75 131 16 := f76 131 16 (fun q => absurd q.1 (by decide))
            have tM77_133_6 : M77 133 6 = M75 133 6 := f76 133 6 (fun q => by have := q.2; omega)
            have tM77_133_1 : M77 133 1 = M75 133 1 := f76 133 1 (fun q => by have := q.2; omega)
            have tM77_133_2 : M77 133 2 = M75 133 2 := f76 133 2 (fun q => by have := q.2; omega)
            have tM77_133_4 : M77 133 4 = M75 133 4 := f76 133 4 (fun q => by have := q.2; omega)
            have hq9 := wl_wr f76 (by omega)
            have hL := hq9.2 hL
            have cM77 := hq9.1
            clear hq9
            have hF := hF.wr f76 (by decide) (by decide)
            have hW : WFk M77 := hW.site f76 (by decide)
            refine z_aload_n F dX12_readThing_167 rfl (q := 6) rfl ?_
            refine rf_X12_13 F gs_131 rfl dX12_readThing_168 ?_
            refine z_bipush F dX12_readThing_171 (by decide +kernel) ?_
            refine z_iload F dX12_readThing_173 (q := 0) rfl ?_
            refine z_iadd F dX12_readThing_175 ?_
            refine z_iload F dX12_readThing_176 (q := 2) rfl ?_
            refine z_iast F hI gs_133 (by omega) (by omega) (by decide) (bd_133.trans (kn_any (by omega) (by omega))) dX12_readThing_178 (by omega) (by omega) (fun M79 hI sf78 f78 => ?_)
            have tM79_131_7 : M79 131 7 = M77 131 7 := f78 131 7 (fun q => absurd q.1 (by decide))
            have tM79_131_8 : M79 131 8 = M77 131 8 := f78 131 8 (fun q => absurd q.1 (by decide))
            have tM79_131_9 : M79 131 9 = M77 131 9 := f78 131 9 (fun q => absurd q.1 (by decide))
            have tM79_131_10 : M79 131 10 = M77 131 10 := f78 131 10 (fun q => absurd q.1 (by decide))
            have tM79_131_12 : M79 131 12 = M77 131 12 := f78 131 12 (fun q => absurd q.1 (by decide))
            have tM79_131_16 : M79 131 16 = M77 131 16 := f78 131 16 (fun q => absurd q.1 (by decide))
            have tM79_133_6 : M79 133 6 = M77 133 6 := f78 133 6 (fun q => by have := q.2; omega)
            have tM79_133_1 : M79 133 1 = M77 133 1 := f78 133 1 (fun q => by have := q.2; omega)
            have tM79_133_2 : M79 133 2 = M77 133 2 := f78 133 2 (fun q => by have := q.2; omega)
            have tM79_133_4 : M79 133 4 = M77 133 4 := f78 133 4 (fun q => by have := q.2; omega)
            have hq9 := wl_wr f78 (by omega)
            have hL := hq9.2 hL
            have cM79 := hq9.1
            clear hq9
            have hF := hF.wr f78 (by decide) (by decide)
            have hW : WFk M79 := hW.site f78 (by decide)
            refine z_aload_n F dX12_readThing_179 rfl (q := 6) rfl ?_
            refine rf_X12_13 F gs_131 rfl dX12_readThing_180 ?_
            refine z_bipush F dX12_readThing_183 (by decide +kernel) ?_
            refine z_iload F dX12_readThing_185 (q := 0) rfl ?_
            refine z_iadd F dX12_readThing_187 ?_
            refine z_iload F dX12_readThing_188 (q := 1) rfl ?_
            refine z_if_eq (tgt := 197) F dX12_readThing_190 (by decide +kernel) (by omega) (fun c80 => ?_) (fun c80 => ?_)
            · refine z_iconst F dX12_readThing_197 ?_
              refine z_iast F hI gs_133 (by omega) (by omega) (by decide) (bd_133.trans (kn_any (by omega) (by omega))) dX12_readThing_198 (by omega) (by omega) (fun M82 hI sf81 f81 => ?_)
              have tM82_131_7 : M82 131 7 = M79 131 7 := f81 131 7 (fun q => absurd q.1 (by decide))
              have tM82_131_8 : M82 131 8 = M79 131 8 := f81 131 8 (fun q => absurd q.1 (by decide))
              have tM82_131_9 : M82 131 9 = M79 131 9 := f81 131 9 (fun q => absurd q.1 (by decide))
              have tM82_131_10 : M82 131 10 = M79 131 10 := f81 131 10 (fun q => absurd q.1 (by decide))
              have tM82_131_12 : M82 131 12 = M79 131 12 := f81 131 12 (fun q => absurd q.1 (by decide))
              have tM82_131_16 : M82 131 16 = M79 131 16 := f81 131 16 (fun q => absurd q.1 (by decide))
              have tM82_133_6 : M82 133 6 = M79 133 6 := f81 133 6 (fun q => by have := q.2; omega)
              have tM82_133_1 : M82 133 1 = M79 133 1 := f81 133 1 (fun q => by have := q.2; omega)
              have tM82_133_2 : M82 133 2 = M79 133 2 := f81 133 2 (fun q => by have := q.2; omega)
              have tM82_133_4 : M82 133 4 = M79 133 4 := f81 133 4 (fun q => by have := q.2; omega)
              have hq9 := wl_wr f81 (by omega)
              have hL := hq9.2 hL
              have cM82 := hq9.1
              clear hq9
              have hF := hF.wr f81 (by decide) (by decide)
              have hW : WFk M82 := hW.site f81 (by decide)
              refine z_aload_n F dX12_readThing_199 rfl (q := 6) rfl ?_
              refine rf_X12_13 F gs_131 rfl dX12_readThing_200 ?_
              refine z_iconst F dX12_readThing_203 ?_
              refine z_dup2 F dX12_readThing_204 rfl rfl ?_
              refine z_iald F hI gs_133 (by omega) (by omega) (by decide) (show Bd 133 2 = (0, 8) from rfl) dX12_readThing_205 (fun v83 (ev83 : v83 = M82 133 2) av83 bv83 => ?_)
              have q84 : v70 = M73 133 2 := ev70.trans (f72 133 2 (fun q => by omega)).symm
              have q85 : v70 = M75 133 2 := q84.trans (f74 133 2 (fun q => by omega)).symm
              have q86 : v70 = M77 133 2 := q85.trans (f76 133 2 (fun q => by omega)).symm
              have q87 : v70 = M79 133 2 := q86.trans (f78 133 2 (fun q => by omega)).symm
              have q88 : v70 = M82 133 2 := q87.trans (f81 133 2 (fun q => by omega)).symm
              have zv83 : v70 = v83 := q88.trans ev83.symm
              subst zv83
              refine z_iconst F dX12_readThing_206 ?_
              refine z_iadd F dX12_readThing_207 ?_
              refine z_nm (fun v90 ev90 => ?_)
              refine z_iast F hI gs_133 (by omega) (by omega) (by decide) (show Bd 133 2 = (0, 8) from rfl) dX12_readThing_208 (by omega) (by omega) (fun M91 hI sf89 f89 => ?_)
              have tM91_131_7 : M91 131 7 = M82 131 7 := f89 131 7 (fun q => absurd q.1 (by decide))
              have tM91_131_8 : M91 131 8 = M82 131 8 := f89 131 8 (fun q => absurd q.1 (by decide))
              have tM91_131_9 : M91 131 9 = M82 131 9 := f89 131 9 (fun q => absurd q.1 (by decide))
              have tM91_131_10 : M91 131 10 = M82 131 10 := f89 131 10 (fun q => absurd q.1 (by decide))
              have tM91_131_12 : M91 131 12 = M82 131 12 := f89 131 12 (fun q => absurd q.1 (by decide))
              have tM91_131_16 : M91 131 16 = M82 131 16 := f89 131 16 (fun q => absurd q.1 (by decide))
              have tM91_133_6 : M91 133 6 = M82 133 6 := f89 133 6 (fun q => absurd q.2 (by decide))
              have tM91_133_1 : M91 133 1 = M82 133 1 := f89 133 1 (fun q => absurd q.2 (by decide))
              have tM91_133_4 : M91 133 4 = M82 133 4 := f89 133 4 (fun q => absurd q.2 (by decide))
              have hq9 := wl_wr f89 (by omega)
              have hL := hq9.2 hL
              have cM91 := hq9.1
              clear hq9
              have hF := hF.wr f89 (by decide) (by decide)
              have hW : WFk M91 := hW.site f89 (by decide)
              have sf89 : M91 133 2 = v90 := sf89
              exact hret _ 209 _ ⟨hI, hW⟩ ⟨hF, ⟨hL, by omega⟩⟩ dX12_readThing_209
            · refine z_iconst F dX12_readThing_193 ?_
              refine z_goto (tgt := 198) F dX12_readThing_194 (by decide +kernel) ?_
              refine z_iast F hI gs_133 (by omega) (by omega) (by decide) (bd_133.trans (kn_any (by omega) (by omega))) dX12_readThing_198 (by omega) (by omega) (fun M93 hI sf92 f92 => ?_)
              have tM93_131_7 : M93 131 7 = M79 131 7 := f92 131 7 (fun q => absurd q.1 (by decide))
              have tM93_131_8 : M93 131 8 = M79 131 8 := f92 131 8 (fun q => absurd q.1 (by decide))
              have tM93_131_9 : M93 131 9 = M79 131 9 := f92 131 9 (fun q => absurd q.1 (by decide))
              have tM93_131_10 : M93 131 10 = M79 131 10 := f92 131 10 (fun q => absurd q.1 (by decide))
              have tM93_131_12 : M93 131 12 = M79 131 12 := f92 131 12 (fun q => absurd q.1 (by decide))
              have tM93_131_16 : M93 131 16 = M79 131 16 := f92 131 16 (fun q => absurd q.1 (by decide))
              have tM93_133_6 : M93 133 6 = M79 133 6 := f92 133 6 (fun q => by have := q.2; omega)
              have tM93_133_1 : M93 133 1 = M79 133 1 := f92 133 1 (fun q => by have := q.2; omega)
              have tM93_133_2 : M93 133 2 = M79 133 2 := f92 133 2 (fun q => by have := q.2; omega)
              have tM93_133_4 : M93 133 4 = M79 133 4 := f92 133 4 (fun q => by have := q.2; omega)
              have hq9 := wl_wr f92 (by omega)
              have hL := hq9.2 hL
              have cM93 := hq9.1
              clear hq9
              have hF := hF.wr f92 (by decide) (by decide)
              have hW : WFk M93 := hW.site f92 (by decide)
              refine z_aload_n F dX12_readThing_199 rfl (q := 6) rfl ?_
              refine rf_X12_13 F gs_131 rfl dX12_readThing_200 ?_
              refine z_iconst F dX12_readThing_203 ?_
              refine z_dup2 F dX12_readThing_204 rfl rfl ?_
              refine z_iald F hI gs_133 (by omega) (by omega) (by decide) (show Bd 133 2 = (0, 8) from rfl) dX12_readThing_205 (fun v94 (ev94 : v94 = M93 133 2) av94 bv94 => ?_)
              have q95 : v70 = M73 133 2 := ev70.trans (f72 133 2 (fun q => by omega)).symm
              have q96 : v70 = M75 133 2 := q95.trans (f74 133 2 (fun q => by omega)).symm
              have q97 : v70 = M77 133 2 := q96.trans (f76 133 2 (fun q => by omega)).symm
              have q98 : v70 = M79 133 2 := q97.trans (f78 133 2 (fun q => by omega)).symm
              have q99 : v70 = M93 133 2 := q98.trans (f92 133 2 (fun q => by omega)).symm
              have zv94 : v70 = v94 := q99.trans ev94.symm
              subst zv94
              refine z_iconst F dX12_readThing_206 ?_
              refine z_iadd F dX12_readThing_207 ?_
              refine z_nm (fun v101 ev101 => ?_)
              refine z_iast F hI gs_133 (by omega) (by omega) (by decide) (show Bd 133 2 = (0, 8) from rfl) dX12_readThing_208 (by omega) (by omega) (fun M102 hI sf100 f100 => ?_)
              have tM102_131_7 : M102 131 7 = M93 131 7 := f100 131 7 (fun q => absurd q.1 (by decide))
              have tM102_131_8 : M102 131 8 = M93 131 8 := f100 131 8 (fun q => absurd q.1 (by decide))
              have tM102_131_9 : M102 131 9 = M93 131 9 := f100 131 9 (fun q => absurd q.1 (by decide))
              have tM102_131_10 : M102 131 10 = M93 131 10 := f100 131 10 (fun q => absurd q.1 (by decide))
              have tM102_131_12 : M102 131 12 = M93 131 12 := f100 131 12 (fun q => absurd q.1 (by decide))
              have tM102_131_16 : M102 131 16 = M93 131 16 := f100 131 16 (fun q => absurd q.1 (by decide))
              have tM102_133_6 : M102 133 6 = M93 133 6 := f100 133 6 (fun q => absurd q.2 (by decide))
              have tM102_133_1 : M102 133 1 = M93 133 1 := f100 133 1 (fun q => absurd q.2 (by decide))
              have tM102_133_4 : M102 133 4 = M93 133 4 := f100 133 4 (fun q => absurd q.2 (by decide))
              have hq9 := wl_wr f100 (by omega)
              have hL := hq9.2 hL
              have cM102 := hq9.1
              clear hq9
              have hF := hF.wr f100 (by decide) (by decide)
              have hW : WFk M102 := hW.site f100 (by decide)
              have sf100 : M102 133 2 = v101 := sf100
              exact hret _ 209 _ ⟨hI, hW⟩ ⟨hF, ⟨hL, by omega⟩⟩ dX12_readThing_209
          · exact hret _ 125 _ ⟨hI, hW⟩ ⟨hF, ⟨hL, by omega⟩⟩ dX12_readThing_125
      · refine z_aload_n F dX12_readThing_76 rfl (q := 2) rfl ?_
        refine z_iconst F dX12_readThing_77 ?_
        refine z_bipush F dX12_readThing_78 (by decide +kernel) ?_
        refine zv_i (rest := []) F (kp_X12_number l M17 ⟨hI, hW⟩ 0 (by omega) (by omega) 9 (by omega) (by omega) (by omega)) cs_X12_199 (T := TX12) (N := 44) (ci := 12) rfl gs_131 (by decide) (by decide) rfl rfl rfl (Nat.le_of_ble_eq_true rfl) dX12_readThing_80 (fun v103 M104 rv103 hI p105 => ?_)
        obtain ⟨hI, hW⟩ := hI
        obtain ⟨⟨av103, bv103⟩, fp105, xp105⟩ := p105
        have hF := hF.call fp105 (by decide)
        have tM104_133_6 : M104 133 6 = M17 133 6 := fp105.at (by decide)
        have tM104_133_1 : M104 133 1 = M17 133 1 := fp105.at (by decide)
        have tM104_133_2 : M104 133 2 = M17 133 2 := fp105.at (by decide)
        have tM104_133_4 : M104 133 4 = M17 133 4 := fp105.at (by decide)
        have hq9 := wl_fr fp105 (by decide)
        have hL := hq9.2 hL
        have cM104 := hq9.1
        clear hq9
        have hkv103 : 0 ≤ v103 ∧ v103 ≤ 9 := by omega
        refine z_goto (tgt := 87) F dX12_readThing_83 (by decide +kernel) ?_
        refine z_istore_n F dX12_readThing_87 rfl (by decide) (ls' := [(3, ii v103), (2, ii v13), (1, ii v8), (0, .ref (ad 131))]) rfl ?_
        refine z_aload_n F dX12_readThing_88 rfl (q := 3) rfl ?_
        refine z_ldcS (j := 63) F dX12_readThing_89 rfl rfl rfl ?_
        refine z_eq (st' := [.ref (ad 1063), .ref (ad 131)]) rfl rfl rfl ?_
        refine zv_i (rest := []) F (kp_X12_took_131_1063 l M104 ⟨hI, hW⟩ (by omega)) cs_X12_130 (T := TX12) (N := 44) (ci := 12) rfl gs_131 (by decide) (by decide) rfl rfl rfl (Nat.le_of_ble_eq_true rfl) dX12_readThing_91 (fun v106 M107 rv106 hI p108 => ?_)
        obtain ⟨hI, hW⟩ := hI
        obtain ⟨⟨av106, bv106⟩, fp108, xp108⟩ := p108
        have hF := hF.call fp108 (by decide)
        have tM107_133_6 : M107 133 6 = M104 133 6 := fp108.at (by decide)
        have tM107_133_1 : M107 133 1 = M104 133 1 := fp108.at (by decide)
        have tM107_133_2 : M107 133 2 = M104 133 2 := fp108.at (by decide)
        have tM107_133_4 : M107 133 4 = M104 133 4 := fp108.at (by decide)
        have hq9 := wl_fr fp108 (by decide)
        have hL := hq9.2 hL
        have cM107 := hq9.1
        clear hq9
        refine z_if_eq (tgt := 107) F dX12_readThing_94 (by decide +kernel) (by omega) (fun c109 => ?_) (fun c109 => ?_)
        · refine z_iconst F dX12_readThing_107 ?_
          refine z_istore F dX12_readThing_108 (by decide) (ls' := [(4, ii 1), (3, ii v103), (2, ii v13), (1, ii v8), (0, .ref (ad 131))]) rfl ?_
          refine z_aload_n F dX12_readThing_110 rfl (q := 4) rfl ?_
          refine z_ldcS (j := 64) F dX12_readThing_111 rfl rfl rfl ?_
          refine z_eq (st' := [.ref (ad 1064), .ref (ad 131)]) rfl rfl rfl ?_
          refine zv_i (rest := []) F (kp_X12_took_131_1064 l M107 ⟨hI, hW⟩ (by omega)) cs_X12_130 (T := TX12) (N := 44) (ci := 12) rfl gs_131 (by decide) (by decide) rfl rfl rfl (Nat.le_of_ble_eq_true rfl) dX12_readThing_113 (fun v110 M111 rv110 hI p112 => ?_)
          obtain ⟨hI, hW⟩ := hI
          obtain ⟨⟨av110, bv110⟩, fp112, xp112⟩ := p112
          have hF := hF.call fp112 (by decide)
          have tM111_133_6 : M111 133 6 = M107 133 6 := fp112.at (by decide)
          have tM111_133_1 : M111 133 1 = M107 133 1 := fp112.at (by decide)
          have tM111_133_2 : M111 133 2 = M107 133 2 := fp112.at (by decide)
          have tM111_133_4 : M111 133 4 = M107 133 4 := fp112.at (by decide)
          have hq9 := wl_fr fp112 (by decide)
          have hL := hq9.2 hL
          have cM111 := hq9.1
          clear hq9
          refine z_istore F dX12_readThing_116 (by decide) (ls' := [(5, ii v110), (4, ii 1), (3, ii v103), (2, ii v13), (1, ii v8), (0, .ref (ad 131))]) rfl ?_
          refine z_aload_n F dX12_readThing_118 rfl (q := 5) rfl ?_
          refine gf_X12_108 F hI gs_131 rfl bd_131_12 dX12_readThing_119 (fun v113 ev113 av113 bv113 => ?_)
          refine z_if_eq (tgt := 126) F dX12_readThing_122 (by decide +kernel) (by omega) (fun c114 => ?_) (fun c114 => ?_)
          · refine z_aload_n F dX12_readThing_126 rfl (q := 5) rfl ?_
            refine rf_X12_13 F gs_131 rfl dX12_readThing_127 ?_
            refine z_iconst F dX12_readThing_130 ?_
            refine z_iald F hI gs_133 (by omega) (by omega) (by decide) (show Bd 133 2 = (0, 8) from rfl) dX12_readThing_131 (fun v115 (ev115 : v115 = M111 133 2) av115 bv115 => ?_)
            have k116 : 0 ≤ v115 ∧ v115 ≤ 7 := by omega
            refine z_istore F dX12_readThing_132 (by decide) (ls' := [(6, ii v115), (5, ii v110), (4, ii 1), (3, ii v103), (2, ii v13), (1, ii v8), (0, .ref (ad 131))]) rfl ?_
            refine z_aload_n F dX12_readThing_134 rfl (q := 6) rfl ?_
            refine rf_X12_13 F gs_131 rfl dX12_readThing_135 ?_
            refine z_bipush F dX12_readThing_138 (by decide +kernel) ?_
            refine z_iload F dX12_readThing_140 (q := 0) rfl ?_
            refine z_iadd F dX12_readThing_142 ?_
            refine z_iload_n F dX12_readThing_143 rfl (q := 5) rfl ?_
            refine z_iast F hI gs_133 (by omega) (by omega) (by decide) (bd_133.trans (kn_at (by omega) (by omega))) dX12_readThing_144 (by omega) (by omega) (fun M118 hI sf117 f117 => ?_)
            have tM118_131_7 : M118 131 7 = M111 131 7 := f117 131 7 (fun q => absurd q.1 (by decide))
            have tM118_131_8 : M118 131 8 = M111 131 8 := f117 131 8 (fun q => absurd q.1 (by decide))
            have tM118_131_9 : M118 131 9 = M111 131 9 := f117 131 9 (fun q => absurd q.1 (by decide))
            have tM118_131_10 : M118 131 10 = M111 131 10 := f117 131 10 (fun q => absurd q.1 (by decide))
            have tM118_131_12 : M118 131 12 = M111 131 12 := f117 131 12 (fun q => absurd q.1 (by decide))
            have tM118_131_16 : M118 131 16 = M111 131 16 := f117 131 16 (fun q => absurd q.1 (by decide))
            have tM118_133_6 : M118 133 6 = M111 133 6 := f117 133 6 (fun q => by have := q.2; omega)
            have tM118_133_1 : M118 133 1 = M111 133 1 := f117 133 1 (fun q => by have := q.2; omega)
            have tM118_133_2 : M118 133 2 = M111 133 2 := f117 133 2 (fun q => by have := q.2; omega)
            have tM118_133_4 : M118 133 4 = M111 133 4 := f117 133 4 (fun q => by have := q.2; omega)
            have hq9 := wl_wr f117 (by omega)
            have hL := hq9.2 hL
            have cM118 := hq9.1
            clear hq9
            have hF := hF.wr f117 (by decide) (by decide)
            have hW : WFk M118 := hW.site f117 (by decide)
            refine z_aload_n F dX12_readThing_145 rfl (q := 6) rfl ?_
            refine rf_X12_13 F gs_131 rfl dX12_readThing_146 ?_
            refine z_bipush F dX12_readThing_149 (by decide +kernel) ?_
            refine z_iload F dX12_readThing_151 (q := 0) rfl ?_
            refine z_iadd F dX12_readThing_153 ?_
            refine z_iload_n F dX12_readThing_154 rfl (q := 4) rfl ?_
            refine z_iast F hI gs_133 (by omega) (by omega) (by decide) (bd_133.trans (kn_any (by omega) (by omega))) dX12_readThing_155 (by omega) (by omega) (fun M120 hI sf119 f119 => ?_)
            have tM120_131_7 : M120 131 7 = M118 131 7 := f119 131 7 (fun q => absurd q.1 (by decide))
            have tM120_131_8 : M120 131 8 = M118 131 8 := f119 131 8 (fun q => absurd q.1 (by decide))
            have tM120_131_9 : M120 131 9 = M118 131 9 := f119 131 9 (fun q => absurd q.1 (by decide))
            have tM120_131_10 : M120 131 10 = M118 131 10 := f119 131 10 (fun q => absurd q.1 (by decide))
            have tM120_131_12 : M120 131 12 = M118 131 12 := f119 131 12 (fun q => absurd q.1 (by decide))
            have tM120_131_16 : M120 131 16 = M118 131 16 := f119 131 16 (fun q => absurd q.1 (by decide))
            have tM120_133_6 : M120 133 6 = M118 133 6 := f119 133 6 (fun q => by have := q.2; omega)
            have tM120_133_1 : M120 133 1 = M118 133 1 := f119 133 1 (fun q => by have := q.2; omega)
            have tM120_133_2 : M120 133 2 = M118 133 2 := f119 133 2 (fun q => by have := q.2; omega)
            have tM120_133_4 : M120 133 4 = M118 133 4 := f119 133 4 (fun q => by have := q.2; omega)
            have hq9 := wl_wr f119 (by omega)
            have hL := hq9.2 hL
            have cM120 := hq9.1
            clear hq9
            have hF := hF.wr f119 (by decide) (by decide)
            have hW : WFk M120 := hW.site f119 (by decide)
            refine z_aload_n F dX12_readThing_156 rfl (q := 6) rfl ?_
            refine rf_X12_13 F gs_131 rfl dX12_readThing_157 ?_
            refine z_bipush F dX12_readThing_160 (by decide +kernel) ?_
            refine z_iload F dX12_readThing_162 (q := 0) rfl ?_
            refine z_iadd F dX12_readThing_164 ?_
            refine z_iload_n F dX12_readThing_165 rfl (q := 3) rfl ?_
            refine z_iast F hI gs_133 (by omega) (by omega) (by decide) (bd_133.trans (kn_any (by omega) (by omega))) dX12_readThing_166 (by omega) (by omega) (fun M122 hI sf121 f121 => ?_)
            have tM122_131_7 : M122 131 7 = M120 131 7 := f121 131 7 (fun q => absurd q.1 (by decide))
            have tM122_131_8 : M122 131 8 = M120 131 8 := f121 131 8 (fun q => absurd q.1 (by decide))
            have tM122_131_9 : M122 131 9 = M120 131 9 := f121 131 9 (fun q => absurd q.1 (by decide))
            have tM122_131_10 : M122 131 10 = M120 131 10 := f121 131 10 (fun q => absurd q.1 (by decide))
            have tM122_131_12 : M122 131 12 = M120 131 12 := f121 131 12 (fun q => absurd q.1 (by decide))
            have tM122_131_16 : M122 131 16 = M120 131 16 := f121 131 16 (fun q => absurd q.1 (by decide))
            have tM122_133_6 : M122 133 6 = M120 133 6 := f121 133 6 (fun q => by have := q.2; omega)
            have tM122_133_1 : M122 133 1 = M120 133 1 := f121 133 1 (fun q => by have := q.2; omega)
            have tM122_133_2 : M122 133 2 = M120 133 2 := f121 133 2 (fun q => by have := q.2; omega)
            have tM122_133_4 : M122 133 4 = M120 133 4 := f121 133 4 (fun q => by have := q.2; omega)
            have hq9 := wl_wr f121 (by omega)
            have hL := hq9.2 hL
            have cM122 := hq9.1
            clear hq9
            have hF := hF.wr f121 (by decide) (by decide)
            have hW : WFk M122 := hW.site f121 (by decide)
            refine z_aload_n F dX12_readThing_167 rfl (q := 6) rfl ?_
            refine rf_X12_13 F gs_131 rfl dX12_readThing_168 ?_
            refine z_bipush F dX12_readThing_171 (by decide +kernel) ?_
            refine z_iload F dX12_readThing_173 (q := 0) rfl ?_
            refine z_iadd F dX12_readThing_175 ?_
            refine z_iload F dX12_readThing_176 (q := 2) rfl ?_
            refine z_iast F hI gs_133 (by omega) (by omega) (by decide) (bd_133.trans (kn_any (by omega) (by omega))) dX12_readThing_178 (by omega) (by omega) (fun M124 hI sf123 f123 => ?_)
            have tM124_131_7 : M124 131 7 = M122 131 7 := f123 131 7 (fun q => absurd q.1 (by decide))
            have tM124_131_8 : M124 131 8 = M122 131 8 := f123 131 8 (fun q => absurd q.1 (by decide))
            have tM124_131_9 : M124 131 9 = M122 131 9 := f123 131 9 (fun q => absurd q.1 (by decide))
            have tM124_131_10 : M124 131 10 = M122 131 10 := f123 131 10 (fun q => absurd q.1 (by decide))
            have tM124_131_12 : M124 131 12 = M122 131 12 := f123 131 12 (fun q => absurd q.1 (by decide))
            have tM124_131_16 : M124 131 16 = M122 131 16 := f123 131 16 (fun q => absurd q.1 (by decide))
            have tM124_133_6 : M124 133 6 = M122 133 6 := f123 133 6 (fun q => by have := q.2; omega)
            have tM124_133_1 : M124 133 1 = M122 133 1 := f123 133 1 (fun q => by have := q.2; omega)
            have tM124_133_2 : M124 133 2 = M122 133 2 := f123 133 2 (fun q => by have := q.2; omega)
            have tM124_133_4 : M124 133 4 = M122 133 4 := f123 133 4 (fun q => by have := q.2; omega)
            have hq9 := wl_wr f123 (by omega)
            have hL := hq9.2 hL
            have cM124 := hq9.1
            clear hq9
            have hF := hF.wr f123 (by decide) (by decide)
            have hW : WFk M124 := hW.site f123 (by decide)
            refine z_aload_n F dX12_readThing_179 rfl (q := 6) rfl ?_
            refine rf_X12_13 F gs_131 rfl dX12_readThing_180 ?_
            refine z_bipush F dX12_readThing_183 (by decide +kernel) ?_
            refine z_iload F dX12_readThing_185 (q := 0) rfl ?_
            refine z_iadd F dX12_readThing_187 ?_
            refine z_iload F dX12_readThing_188 (q := 1) rfl ?_
            refine z_if_eq (tgt := 197) F dX12_readThing_190 (by decide +kernel) (by omega) (fun c125 => ?_) (fun c125 => ?_)
            · refine z_iconst F dX12_readThing_197 ?_
              refine z_iast F hI gs_133 (by omega) (by omega) (by decide) (bd_133.trans (kn_any (by omega) (by omega))) dX12_readThing_198 (by omega) (by omega) (fun M127 hI sf126 f126 => ?_)
              have tM127_131_7 : M127 131 7 = M124 131 7 := f126 131 7 (fun q => absurd q.1 (by decide))
              have tM127_131_8 : M127 131 8 = M124 131 8 := f126 131 8 (fun q => absurd q.1 (by decide))
              have tM127_131_9 : M127 131 9 = M124 131 9 := f126 131 9 (fun q => absurd q.1 (by decide))
              have tM127_131_10 : M127 131 10 = M124 131 10 := f126 131 10 (fun q => absurd q.1 (by decide))
              have tM127_131_12 : M127 131 12 = M124 131 12 := f126 131 12 (fun q => absurd q.1 (by decide))
              have tM127_131_16 : M127 131 16 = M124 131 16 := f126 131 16 (fun q => absurd q.1 (by decide))
              have tM127_133_6 : M127 133 6 = M124 133 6 := f126 133 6 (fun q => by have := q.2; omega)
              have tM127_133_1 : M127 133 1 = M124 133 1 := f126 133 1 (fun q => by have := q.2; omega)
              have tM127_133_2 : M127 133 2 = M124 133 2 := f126 133 2 (fun q => by have := q.2; omega)
              have tM127_133_4 : M127 133 4 = M124 133 4 := f126 133 4 (fun q => by have := q.2; omega)
              have hq9 := wl_wr f126 (by omega)
              have hL := hq9.2 hL
              have cM127 := hq9.1
              clear hq9
              have hF := hF.wr f126 (by decide) (by decide)
              have hW : WFk M127 := hW.site f126 (by decide)
              refine z_aload_n F dX12_readThing_199 rfl (q := 6) rfl ?_
              refine rf_X12_13 F gs_131 rfl dX12_readThing_200 ?_
              refine z_iconst F dX12_readThing_203 ?_
              refine z_dup2 F dX12_readThing_204 rfl rfl ?_
              refine z_iald F hI gs_133 (by omega) (by omega) (by decide) (show Bd 133 2 = (0, 8) from rfl) dX12_readThing_205 (fun v128 (ev128 : v128 = M127 133 2) av128 bv128 => ?_)
              have q129 : v115 = M118 133 2 := ev115.trans (f117 133 2 (fun q => by omega)).symm
              have q130 : v115 = M120 133 2 := q129.trans (f119 133 2 (fun q => by omega)).symm
              have q131 : v115 = M122 133 2 := q130.trans (f121 133 2 (fun q => by omega)).symm
              have q132 : v115 = M124 133 2 := q131.trans (f123 133 2 (fun q => by omega)).symm
              have q133 : v115 = M127 133 2 := q132.trans (f126 133 2 (fun q => by omega)).symm
              have zv128 : v115 = v128 := q133.trans ev128.symm
              subst zv128
              refine z_iconst F dX12_readThing_206 ?_
              refine z_iadd F dX12_readThing_207 ?_
              refine z_nm (fun v135 ev135 => ?_)
              refine z_iast F hI gs_133 (by omega) (by omega) (by decide) (show Bd 133 2 = (0, 8) from rfl) dX12_readThing_208 (by omega) (by omega) (fun M136 hI sf134 f134 => ?_)
              have tM136_131_7 : M136 131 7 = M127 131 7 := f134 131 7 (fun q => absurd q.1 (by decide))
              have tM136_131_8 : M136 131 8 = M127 131 8 := f134 131 8 (fun q => absurd q.1 (by decide))
              have tM136_131_9 : M136 131 9 = M127 131 9 := f134 131 9 (fun q => absurd q.1 (by decide))
              have tM136_131_10 : M136 131 10 = M127 131 10 := f134 131 10 (fun q => absurd q.1 (by decide))
              have tM136_131_12 : M136 131 12 = M127 131 12 := f134 131 12 (fun q => absurd q.1 (by decide))
              have tM136_131_16 : M136 131 16 = M127 131 16 := f134 131 16 (fun q => absurd q.1 (by decide))
              have tM136_133_6 : M136 133 6 = M127 133 6 := f134 133 6 (fun q => absurd q.2 (by decide))
              have tM136_133_1 : M136 133 1 = M127 133 1 := f134 133 1 (fun q => absurd q.2 (by decide))
              have tM136_133_4 : M136 133 4 = M127 133 4 := f134 133 4 (fun q => absurd q.2 (by decide))
              have hq9 := wl_wr f134 (by omega)
              have hL := hq9.2 hL
              have cM136 := hq9.1
              clear hq9
              have hF := hF.wr f134 (by decide) (by decide)
              have hW : WFk M136 := hW.site f134 (by decide)
              have sf134 : M136 133 2 = v135 := sf134
              exact hret _ 209 _ ⟨hI, hW⟩ ⟨hF, ⟨hL, by omega⟩⟩ dX12_readThing_209
            · refine z_iconst F dX12_readThing_193 ?_
              refine z_goto (tgt := 198) F dX12_readThing_194 (by decide +kernel) ?_
              refine z_iast F hI gs_133 (by omega) (by omega) (by decide) (bd_133.trans (kn_any (by omega) (by omega))) dX12_readThing_198 (by omega) (by omega) (fun M138 hI sf137 f137 => ?_)
              have tM138_131_7 : M138 131 7 = M124 131 7 := f137 131 7 (fun q => absurd q.1 (by decide))
              have tM138_131_8 : M138 131 8 = M124 131 8 := f137 131 8 (fun q => absurd q.1 (by decide))
              have tM138_131_9 : M138 131 9 = M124 131 9 := f137 131 9 (fun q => absurd q.1 (by decide))
              have tM138_131_10 : M138 131 10 = M124 131 10 := f137 131 10 (fun q => absurd q.1 (by decide))
              have tM138_131_12 : M138 131 12 = M124 131 12 := f137 131 12 (fun q => absurd q.1 (by decide))
              have tM138_131_16 : M138 131 16 = M124 131 16 := f137 131 16 (fun q => absurd q.1 (by decide))
              have tM138_133_6 : M138 133 6 = M124 133 6 := f137 133 6 (fun q => by have := q.2; omega)
              have tM138_133_1 : M138 133 1 = M124 133 1 := f137 133 1 (fun q => by have := q.2; omega)
              have tM138_133_2 : M138 133 2 = M124 133 2 := f137 133 2 (fun q => by have := q.2; omega)
              have tM138_133_4 : M138 133 4 = M124 133 4 := f137 133 4 (fun q => by have := q.2; omega)
              have hq9 := wl_wr f137 (by omega)
              have hL := hq9.2 hL
              have cM138 := hq9.1
              clear hq9
              have hF := hF.wr f137 (by decide) (by decide)
              have hW : WFk M138 := hW.site f137 (by decide)
              refine z_aload_n F dX12_readThing_199 rfl (q := 6) rfl ?_
              refine rf_X12_13 F gs_131 rfl dX12_readThing_200 ?_
              refine z_iconst F dX12_readThing_203 ?_
              refine z_dup2 F dX12_readThing_204 rfl rfl ?_
              refine z_iald F hI gs_133 (by omega) (by omega) (by decide) (show Bd 133 2 = (0, 8) from rfl) dX12_readThing_205 (fun v139 (ev139 : v139 = M138 133 2) av139 bv139 => ?_)
              have q140 : v115 = M118 133 2 := ev115.trans (f117 133 2 (fun q => by omega)).symm
              have q141 : v115 = M120 133 2 := q140.trans (f119 133 2 (fun q => by omega)).symm
              have q142 : v115 = M122 133 2 := q141.trans (f121 133 2 (fun q => by omega)).symm
              have q143 : v115 = M124 133 2 := q142.trans (f123 133 2 (fun q => by omega)).symm
              have q144 : v115 = M138 133 2 := q143.trans (f137 133 2 (fun q => by omega)).symm
              have zv139 : v115 = v139 := q144.trans ev139.symm
              subst zv139
              refine z_iconst F dX12_readThing_206 ?_
              refine z_iadd F dX12_readThing_207 ?_
              refine z_nm (fun v146 ev146 => ?_)
              refine z_iast F hI gs_133 (by omega) (by omega) (by decide) (show Bd 133 2 = (0, 8) from rfl) dX12_readThing_208 (by omega) (by omega) (fun M147 hI sf145 f145 => ?_)
              have tM147_131_7 : M147 131 7 = M138 131 7 := f145 131 7 (fun q => absurd q.1 (by decide))
              have tM147_131_8 : M147 131 8 = M138 131 8 := f145 131 8 (fun q => absurd q.1 (by decide))
              have tM147_131_9 : M147 131 9 = M138 131 9 := f145 131 9 (fun q => absurd q.1 (by decide))
              have tM147_131_10 : M147 131 10 = M138 131 10 := f145 131 10 (fun q => absurd q.1 (by decide))
              have tM147_131_12 : M147 131 12 = M138 131 12 := f145 131 12 (fun q => absurd q.1 (by decide))
              have tM147_131_16 : M147 131 16 = M138 131 16 := f145 131 16 (fun q => absurd q.1 (by decide))
              have tM147_133_6 : M147 133 6 = M138 133 6 := f145 133 6 (fun q => absurd q.2 (by decide))
              have tM147_133_1 : M147 133 1 = M138 133 1 := f145 133 1 (fun q => absurd q.2 (by decide))
              have tM147_133_4 : M147 133 4 = M138 133 4 := f145 133 4 (fun q => absurd q.2 (by decide))
              have hq9 := wl_wr f145 (by omega)
              have hL := hq9.2 hL
              have cM147 := hq9.1
              clear hq9
              have hF := hF.wr f145 (by decide) (by decide)
              have hW : WFk M147 := hW.site f145 (by decide)
              have sf145 : M147 133 2 = v146 := sf145
              exact hret _ 209 _ ⟨hI, hW⟩ ⟨hF, ⟨hL, by omega⟩⟩ dX12_readThing_209
          · exact hret _ 125 _ ⟨hI, hW⟩ ⟨hF, ⟨hL, by omega⟩⟩ dX12_readThing_125
        · refine z_aload_n F dX12_readThing_97 rfl (q := 3) rfl ?_
          refine z_iconst F dX12_readThing_98 ?_
          refine z_bipush F dX12_readThing_99 (by decide +kernel) ?_
          refine zv_i (rest := []) F (kp_X12_number l M107 ⟨hI, hW⟩ 1 (by omega) (by omega) 9 (by omega) (by omega) (by omega)) cs_X12_199 (T := TX12) (N := 44) (ci := 12) rfl gs_131 (by decide) (by decide) rfl rfl rfl (Nat.le_of_ble_eq_true rfl) dX12_readThing_101 (fun v148 M149 rv148 hI p150 => ?_)
          obtain ⟨hI, hW⟩ := hI
          obtain ⟨⟨av148, bv148⟩, fp150, xp150⟩ := p150
          have hF := hF.call fp150 (by decide)
          have tM149_133_6 : M149 133 6 = M107 133 6 := fp150.at (by decide)
          have tM149_133_1 : M149 133 1 = M107 133 1 := fp150.at (by decide)
          have tM149_133_2 : M149 133 2 = M107 133 2 := fp150.at (by decide)
          have tM149_133_4 : M149 133 4 = M107 133 4 := fp150.at (by decide)
          have hq9 := wl_fr fp150 (by decide)
          have hL := hq9.2 hL
          have cM149 := hq9.1
          clear hq9
          have hkv148 : 1 ≤ v148 ∧ v148 ≤ 9 := by omega
          refine z_goto (tgt := 108) F dX12_readThing_104 (by decide +kernel) ?_
          refine z_istore F dX12_readThing_108 (by decide) (ls' := [(4, ii v148), (3, ii v103), (2, ii v13), (1, ii v8), (0, .ref (ad 131))]) rfl ?_
          refine z_aload_n F dX12_readThing_110 rfl (q := 4) rfl ?_
          refine z_ldcS (j := 64) F dX12_readThing_111 rfl rfl rfl ?_
          refine z_eq (st' := [.ref (ad 1064), .ref (ad 131)]) rfl rfl rfl ?_
          refine zv_i (rest := []) F (kp_X12_took_131_1064 l M149 ⟨hI, hW⟩ (by omega)) cs_X12_130 (T := TX12) (N := 44) (ci := 12) rfl gs_131 (by decide) (by decide) rfl rfl rfl (Nat.le_of_ble_eq_true rfl) dX12_readThing_113 (fun v151 M152 rv151 hI p153 => ?_)
          obtain ⟨hI, hW⟩ := hI
          obtain ⟨⟨av151, bv151⟩, fp153, xp153⟩ := p153
          have hF := hF.call fp153 (by decide)
          have tM152_133_6 : M152 133 6 = M149 133 6 := fp153.at (by decide)
          have tM152_133_1 : M152 133 1 = M149 133 1 := fp153.at (by decide)
          have tM152_133_2 : M152 133 2 = M149 133 2 := fp153.at (by decide)
          have tM152_133_4 : M152 133 4 = M149 133 4 := fp153.at (by decide)
          have hq9 := wl_fr fp153 (by decide)
          have hL := hq9.2 hL
          have cM152 := hq9.1
          clear hq9
          refine z_istore F dX12_readThing_116 (by decide) (ls' := [(5, ii v151), (4, ii v148), (3, ii v103), (2, ii v13), (1, ii v8), (0, .ref (ad 131))]) rfl ?_
          refine z_aload_n F dX12_readThing_118 rfl (q := 5) rfl ?_
          refine gf_X12_108 F hI gs_131 rfl bd_131_12 dX12_readThing_119 (fun v154 ev154 av154 bv154 => ?_)
          refine z_if_eq (tgt := 126) F dX12_readThing_122 (by decide +kernel) (by omega) (fun c155 => ?_) (fun c155 => ?_)
          · refine z_aload_n F dX12_readThing_126 rfl (q := 5) rfl ?_
            refine rf_X12_13 F gs_131 rfl dX12_readThing_127 ?_
            refine z_iconst F dX12_readThing_130 ?_
            refine z_iald F hI gs_133 (by omega) (by omega) (by decide) (show Bd 133 2 = (0, 8) from rfl) dX12_readThing_131 (fun v156 (ev156 : v156 = M152 133 2) av156 bv156 => ?_)
            have k157 : 0 ≤ v156 ∧ v156 ≤ 7 := by omega
            refine z_istore F dX12_readThing_132 (by decide) (ls' := [(6, ii v156), (5, ii v151), (4, ii v148), (3, ii v103), (2, ii v13), (1, ii v8), (0, .ref (ad 131))]) rfl ?_
            refine z_aload_n F dX12_readThing_134 rfl (q := 6) rfl ?_
            refine rf_X12_13 F gs_131 rfl dX12_readThing_135 ?_
            refine z_bipush F dX12_readThing_138 (by decide +kernel) ?_
            refine z_iload F dX12_readThing_140 (q := 0) rfl ?_
            refine z_iadd F dX12_readThing_142 ?_
            refine z_iload_n F dX12_readThing_143 rfl (q := 5) rfl ?_
            refine z_iast F hI gs_133 (by omega) (by omega) (by decide) (bd_133.trans (kn_at (by omega) (by omega))) dX12_readThing_144 (by omega) (by omega) (fun M159 hI sf158 f158 => ?_)
            have tM159_131_7 : M159 131 7 = M152 131 7 := f158 131 7 (fun q => absurd q.1 (by decide))
            have tM159_131_8 : M159 131 8 = M152 131 8 := f158 131 8 (fun q => absurd q.1 (by decide))
            have tM159_131_9 : M159 131 9 = M152 131 9 := f158 131 9 (fun q => absurd q.1 (by decide))
            have tM159_131_10 : M159 131 10 = M152 131 10 := f158 131 10 (fun q => absurd q.1 (by decide))
            have tM159_131_12 : M159 131 12 = M152 131 12 := f158 131 12 (fun q => absurd q.1 (by decide))
            have tM159_131_16 : M159 131 16 = M152 131 16 := f158 131 16 (fun q => absurd q.1 (by decide))
            have tM159_133_6 : M159 133 6 = M152 133 6 := f158 133 6 (fun q => by have := q.2; omega)
            have tM159_133_1 : M159 133 1 = M152 133 1 := f158 133 1 (fun q => by have := q.2; omega)
            have tM159_133_2 : M159 133 2 = M152 133 2 := f158 133 2 (fun q => by have := q.2; omega)
            have tM159_133_4 : M159 133 4 = M152 133 4 := f158 133 4 (fun q => by have := q.2; omega)
            have hq9 := wl_wr f158 (by omega)
            have hL := hq9.2 hL
            have cM159 := hq9.1
            clear hq9
            have hF := hF.wr f158 (by decide) (by decide)
            have hW : WFk M159 := hW.site f158 (by decide)
            refine z_aload_n F dX12_readThing_145 rfl (q := 6) rfl ?_
            refine rf_X12_13 F gs_131 rfl dX12_readThing_146 ?_
            refine z_bipush F dX12_readThing_149 (by decide +kernel) ?_
            refine z_iload F dX12_readThing_151 (q := 0) rfl ?_
            refine z_iadd F dX12_readThing_153 ?_
            refine z_iload_n F dX12_readThing_154 rfl (q := 4) rfl ?_
            refine z_iast F hI gs_133 (by omega) (by omega) (by decide) (bd_133.trans (kn_any (by omega) (by omega))) dX12_readThing_155 (by omega) (by omega) (fun M161 hI sf160 f160 => ?_)
            have tM161_131_7 : M161 131 7 = M159 131 7 := f160 131 7 (fun q => absurd q.1 (by decide))
            have tM161_131_8 : M161 131 8 = M159 131 8 := f160 131 8 (fun q => absurd q.1 (by decide))
            have tM161_131_9 : M161 131 9 = M159 131 9 := f160 131 9 (fun q => absurd q.1 (by decide))
            have tM161_131_10 : M161 131 10 = M159 131 10 := f160 131 10 (fun q => absurd q.1 (by decide))
            have tM161_131_12 : M161 131 12 = M159 131 12 := f160 131 12 (fun q => absurd q.1 (by decide))
            have tM161_131_16 : M161 131 16 = M159 131 16 := f160 131 16 (fun q => absurd q.1 (by decide))
            have tM161_133_6 : M161 133 6 = M159 133 6 := f160 133 6 (fun q => by have := q.2; omega)
            have tM161_133_1 : M161 133 1 = M159 133 1 := f160 133 1 (fun q => by have := q.2; omega)
            have tM161_133_2 : M161 133 2 = M159 133 2 := f160 133 2 (fun q => by have := q.2; omega)
            have tM161_133_4 : M161 133 4 = M159 133 4 := f160 133 4 (fun q => by have := q.2; omega)
            have hq9 := wl_wr f160 (by omega)
            have hL := hq9.2 hL
            have cM161 := hq9.1
            clear hq9
            have hF := hF.wr f160 (by decide) (by decide)
            have hW : WFk M161 := hW.site f160 (by decide)
            refine z_aload_n F dX12_readThing_156 rfl (q := 6) rfl ?_
            refine rf_X12_13 F gs_131 rfl dX12_readThing_157 ?_
            refine z_bipush F dX12_readThing_160 (by decide +kernel) ?_
            refine z_iload F dX12_readThing_162 (q := 0) rfl ?_
            refine z_iadd F dX12_readThing_164 ?_
            refine z_iload_n F dX12_readThing_165 rfl (q := 3) rfl ?_
            refine z_iast F hI gs_133 (by omega) (by omega) (by decide) (bd_133.trans (kn_any (by omega) (by omega))) dX12_readThing_166 (by omega) (by omega) (fun M163 hI sf162 f162 => ?_)
            have tM163_131_7 : M163 131 7 = M161 131 7 := f162 131 7 (fun q => absurd q.1 (by decide))
            have tM163_131_8 : M163 131 8 = M161 131 8 := f162 131 8 (fun q => absurd q.1 (by decide))
            have tM163_131_9 : M163 131 9 = M161 131 9 := f162 131 9 (fun q => absurd q.1 (by decide))
            have tM163_131_10 : M163 131 10 = M161 131 10 := f162 131 10 (fun q => absurd q.1 (by decide))
            have tM163_131_12 : M163 131 12 = M161 131 12 := f162 131 12 (fun q => absurd q.1 (by decide))
            have tM163_131_16 : M163 131 16 = M161 131 16 := f162 131 16 (fun q => absurd q.1 (by decide))
            have tM163_133_6 : M163 133 6 = M161 133 6 := f162 133 6 (fun q => by have := q.2; omega)
            have tM163_133_1 : M163 133 1 = M161 133 1 := f162 133 1 (fun q => by have := q.2; omega)
            have tM163_133_2 : M163 133 2 = M161 133 2 := f162 133 2 (fun q => by have := q.2; omega)
            have tM163_133_4 : M163 133 4 = M161 133 4 := f162 133 4 (fun q => by have := q.2; omega)
            have hq9 := wl_wr f162 (by omega)
            have hL := hq9.2 hL
            have cM163 := hq9.1
            clear hq9
            have hF := hF.wr f162 (by decide) (by decide)
            have hW : WFk M163 := hW.site f162 (by decide)
            refine z_aload_n F dX12_readThing_167 rfl (q := 6) rfl ?_
            refine rf_X12_13 F gs_131 rfl dX12_readThing_168 ?_
            refine z_bipush F dX12_readThing_171 (by decide +kernel) ?_
            refine z_iload F dX12_readThing_173 (q := 0) rfl ?_
            refine z_iadd F dX12_readThing_175 ?_
            refine z_iload F dX12_readThing_176 (q := 2) rfl ?_
            refine z_iast F hI gs_133 (by omega) (by omega) (by decide) (bd_133.trans (kn_any (by omega) (by omega))) dX12_readThing_178 (by omega) (by omega) (fun M165 hI sf164 f164 => ?_)
            have tM165_131_7 : M165 131 7 = M163 131 7 := f164 131 7 (fun q => absurd q.1 (by decide))
            have tM165_131_8 : M165 131 8 = M163 131 8 := f164 131 8 (fun q => absurd q.1 (by decide))
            have tM165_131_9 : M165 131 9 = M163 131 9 := f164 131 9 (fun q => absurd q.1 (by decide))
            have tM165_131_10 : M165 131 10 = M163 131 10 := f164 131 10 (fun q => absurd q.1 (by decide))
            have tM165_131_12 : M165 131 12 = M163 131 12 := f164 131 12 (fun q => absurd q.1 (by decide))
            have tM165_131_16 : M165 131 16 = M163 131 16 := f164 131 16 (fun q => absurd q.1 (by decide))
            have tM165_133_6 : M165 133 6 = M163 133 6 := f164 133 6 (fun q => by have := q.2; omega)
            have tM165_133_1 : M165 133 1 = M163 133 1 := f164 133 1 (fun q => by have := q.2; omega)
            have tM165_133_2 : M165 133 2 = M163 133 2 := f164 133 2 (fun q => by have := q.2; omega)
            have tM165_133_4 : M165 133 4 = M163 133 4 := f164 133 4 (fun q => by have := q.2; omega)
            have hq9 := wl_wr f164 (by omega)
            have hL := hq9.2 hL
            have cM165 := hq9.1
            clear hq9
            have hF := hF.wr f164 (by decide) (by decide)
            have hW : WFk M165 := hW.site f164 (by decide)
            refine z_aload_n F dX12_readThing_179 rfl (q := 6) rfl ?_
            refine rf_X12_13 F gs_131 rfl dX12_readThing_180 ?_
            refine z_bipush F dX12_readThing_183 (by decide +kernel) ?_
            refine z_iload F dX12_readThing_185 (q := 0) rfl ?_
            refine z_iadd F dX12_readThing_187 ?_
            refine z_iload F dX12_readThing_188 (q := 1) rfl ?_
            refine z_if_eq (tgt := 197) F dX12_readThing_190 (by decide +kernel) (by omega) (fun c166 => ?_) (fun c166 => ?_)
            · refine z_iconst F dX12_readThing_197 ?_
              refine z_iast F hI gs_133 (by omega) (by omega) (by decide) (bd_133.trans (kn_any (by omega) (by omega))) dX12_readThing_198 (by omega) (by omega) (fun M168 hI sf167 f167 => ?_)
              have tM168_131_7 : M168 131 7 = M165 131 7 := f167 131 7 (fun q => absurd q.1 (by decide))
              have tM168_131_8 : M168 131 8 = M165 131 8 := f167 131 8 (fun q => absurd q.1 (by decide))
              have tM168_131_9 : M168 131 9 = M165 131 9 := f167 131 9 (fun q => absurd q.1 (by decide))
              have tM168_131_10 : M168 131 10 = M165 131 10 := f167 131 10 (fun q => absurd q.1 (by decide))
              have tM168_131_12 : M168 131 12 = M165 131 12 := f167 131 12 (fun q => absurd q.1 (by decide))
              have tM168_131_16 : M168 131 16 = M165 131 16 := f167 131 16 (fun q => absurd q.1 (by decide))
              have tM168_133_6 : M168 133 6 = M165 133 6 := f167 133 6 (fun q => by have := q.2; omega)
              have tM168_133_1 : M168 133 1 = M165 133 1 := f167 133 1 (fun q => by have := q.2; omega)
              have tM168_133_2 : M168 133 2 = M165 133 2 := f167 133 2 (fun q => by have := q.2; omega)
              have tM168_133_4 : M168 133 4 = M165 133 4 := f167 133 4 (fun q => by have := q.2; omega)
              have hq9 := wl_wr f167 (by omega)
              have hL := hq9.2 hL
              have cM168 := hq9.1
              clear hq9
              have hF := hF.wr f167 (by decide) (by decide)
              have hW : WFk M168 := hW.site f167 (by decide)
              refine z_aload_n F dX12_readThing_199 rfl (q := 6) rfl ?_
              refine rf_X12_13 F gs_131 rfl dX12_readThing_200 ?_
              refine z_iconst F dX12_readThing_203 ?_
              refine z_dup2 F dX12_readThing_204 rfl rfl ?_
              refine z_iald F hI gs_133 (by omega) (by omega) (by decide) (show Bd 133 2 = (0, 8) from rfl) dX12_readThing_205 (fun v169 (ev169 : v169 = M168 133 2) av169 bv169 => ?_)
              have q170 : v156 = M159 133 2 := ev156.trans (f158 133 2 (fun q => by omega)).symm
              have q171 : v156 = M161 133 2 := q170.trans (f160 133 2 (fun q => by omega)).symm
              have q172 : v156 = M163 133 2 := q171.trans (f162 133 2 (fun q => by omega)).symm
              have q173 : v156 = M165 133 2 := q172.trans (f164 133 2 (fun q => by omega)).symm
              have q174 : v156 = M168 133 2 := q173.trans (f167 133 2 (fun q => by omega)).symm
              have zv169 : v156 = v169 := q174.trans ev169.symm
              subst zv169
              refine z_iconst F dX12_readThing_206 ?_
              refine z_iadd F dX12_readThing_207 ?_
              refine z_nm (fun v176 ev176 => ?_)
              refine z_iast F hI gs_133 (by omega) (by omega) (by decide) (show Bd 133 2 = (0, 8) from rfl) dX12_readThing_208 (by omega) (by omega) (fun M177 hI sf175 f175 => ?_)
              have tM177_131_7 : M177 131 7 = M168 131 7 := f175 131 7 (fun q => absurd q.1 (by decide))
              have tM177_131_8 : M177 131 8 = M168 131 8 := f175 131 8 (fun q => absurd q.1 (by decide))
              have tM177_131_9 : M177 131 9 = M168 131 9 := f175 131 9 (fun q => absurd q.1 (by decide))
              have tM177_131_10 : M177 131 10 = M168 131 10 := f175 131 10 (fun q => absurd q.1 (by decide))
              have tM177_131_12 : M177 131 12 = M168 131 12 := f175 131 12 (fun q => absurd q.1 (by decide))
              have tM177_131_16 : M177 131 16 = M168 131 16 := f175 131 16 (fun q => absurd q.1 (by decide))
              have tM177_133_6 : M177 133 6 = M168 133 6 := f175 133 6 (fun q => absurd q.2 (by decide))
              have tM177_133_1 : M177 133 1 = M168 133 1 := f175 133 1 (fun q => absurd q.2 (by decide))
              have tM177_133_4 : M177 133 4 = M168 133 4 := f175 133 4 (fun q => absurd q.2 (by decide))
              have hq9 := wl_wr f175 (by omega)
              have hL := hq9.2 hL
              have cM177 := hq9.1
              clear hq9
              have hF := hF.wr f175 (by decide) (by decide)
              have hW : WFk M177 := hW.site f175 (by decide)
              have sf175 : M177 133 2 = v176 := sf175
              exact hret _ 209 _ ⟨hI, hW⟩ ⟨hF, ⟨hL, by omega⟩⟩ dX12_readThing_209
            · refine z_iconst F dX12_readThing_193 ?_
              refine z_goto (tgt := 198) F dX12_readThing_194 (by decide +kernel) ?_
              refine z_iast F hI gs_133 (by omega) (by omega) (by decide) (bd_133.trans (kn_any (by omega) (by omega))) dX12_readThing_198 (by omega) (by omega) (fun M179 hI sf178 f178 => ?_)
              have tM179_131_7 : M179 131 7 = M165 131 7 := f178 131 7 (fun q => absurd q.1 (by decide))
              have tM179_131_8 : M179 131 8 = M165 131 8 := f178 131 8 (fun q => absurd q.1 (by decide))
              have tM179_131_9 : M179 131 9 = M165 131 9 := f178 131 9 (fun q => absurd q.1 (by decide))
              have tM179_131_10 : M179 131 10 = M165 131 10 := f178 131 10 (fun q => absurd q.1 (by decide))
              have tM179_131_12 : M179 131 12 = M165 131 12 := f178 131 12 (fun q => absurd q.1 (by decide))
              have tM179_131_16 : M179 131 16 = M165 131 16 := f178 131 16 (fun q => absurd q.1 (by decide))
              have tM179_133_6 : M179 133 6 = M165 133 6 := f178 133 6 (fun q => by have := q.2; omega)
              have tM179_133_1 : M179 133 1 = M165 133 1 := f178 133 1 (fun q => by have := q.2; omega)
              have tM179_133_2 : M179 133 2 = M165 133 2 := f178 133 2 (fun q => by have := q.2; omega)
              have tM179_133_4 : M179 133 4 = M165 133 4 := f178 133 4 (fun q => by have := q.2; omega)
              have hq9 := wl_wr f178 (by omega)
              have hL := hq9.2 hL
              have cM179 := hq9.1
              clear hq9
              have hF := hF.wr f178 (by decide) (by decide)
              have hW : WFk M179 := hW.site f178 (by decide)
              refine z_aload_n F dX12_readThing_199 rfl (q := 6) rfl ?_
              refine rf_X12_13 F gs_131 rfl dX12_readThing_200 ?_
              refine z_iconst F dX12_readThing_203 ?_
              refine z_dup2 F dX12_readThing_204 rfl rfl ?_
              refine z_iald F hI gs_133 (by omega) (by omega) (by decide) (show Bd 133 2 = (0, 8) from rfl) dX12_readThing_205 (fun v180 (ev180 : v180 = M179 133 2) av180 bv180 => ?_)
              have q181 : v156 = M159 133 2 := ev156.trans (f158 133 2 (fun q => by omega)).symm
              have q182 : v156 = M161 133 2 := q181.trans (f160 133 2 (fun q => by omega)).symm
              have q183 : v156 = M163 133 2 := q182.trans (f162 133 2 (fun q => by omega)).symm
              have q184 : v156 = M165 133 2 := q183.trans (f164 133 2 (fun q => by omega)).symm
              have q185 : v156 = M179 133 2 := q184.trans (f178 133 2 (fun q => by omega)).symm
              have zv180 : v156 = v180 := q185.trans ev180.symm
              subst zv180
              refine z_iconst F dX12_readThing_206 ?_
              refine z_iadd F dX12_readThing_207 ?_
              refine z_nm (fun v187 ev187 => ?_)
              refine z_iast F hI gs_133 (by omega) (by omega) (by decide) (show Bd 133 2 = (0, 8) from rfl) dX12_readThing_208 (by omega) (by omega) (fun M188 hI sf186 f186 => ?_)
              have tM188_131_7 : M188 131 7 = M179 131 7 := f186 131 7 (fun q => absurd q.1 (by decide))
              have tM188_131_8 : M188 131 8 = M179 131 8 := f186 131 8 (fun q => absurd q.1 (by decide))
              have tM188_131_9 : M188 131 9 = M179 131 9 := f186 131 9 (fun q => absurd q.1 (by decide))
              have tM188_131_10 : M188 131 10 = M179 131 10 := f186 131 10 (fun q => absurd q.1 (by decide))
              have tM188_131_12 : M188 131 12 = M179 131 12 := f186 131 12 (fun q => absurd q.1 (by decide))
              have tM188_131_16 : M188 131 16 = M179 131 16 := f186 131 16 (fun q => absurd q.1 (by decide))
              have tM188_133_6 : M188 133 6 = M179 133 6 := f186 133 6 (fun q => absurd q.2 (by decide))
              have tM188_133_1 : M188 133 1 = M179 133 1 := f186 133 1 (fun q => absurd q.2 (by decide))
              have tM188_133_4 : M188 133 4 = M179 133 4 := f186 133 4 (fun q => absurd q.2 (by decide))
              have hq9 := wl_wr f186 (by omega)
              have hL := hq9.2 hL
              have cM188 := hq9.1
              clear hq9
              have hF := hF.wr f186 (by decide) (by decide)
              have hW : WFk M188 := hW.site f186 (by decide)
              have sf186 : M188 133 2 = v187 := sf186
              exact hret _ 209 _ ⟨hI, hW⟩ ⟨hF, ⟨hL, by omega⟩⟩ dX12_readThing_209
          · exact hret _ 125 _ ⟨hI, hW⟩ ⟨hF, ⟨hL, by omega⟩⟩ dX12_readThing_125
    · refine z_aload_n F dX12_readThing_19 rfl (q := 0) rfl ?_
      refine rf_X12_13 F gs_131 rfl dX12_readThing_20 ?_
      refine z_aload_n F dX12_readThing_23 rfl (q := 0) rfl ?_
      refine gf_X12_102 F hI gs_131 rfl bd_131_11 dX12_readThing_24 (fun v189 ev189 av189 bv189 => ?_)
      refine zs_i (rest := []) F (k_X12_thingAt_133 l M2 ⟨hI, hW⟩ v189 (by omega) (by omega)) cs_X12_209 (by decide) (by decide) rfl rfl rfl (Nat.le_of_ble_eq_true rfl) dX12_readThing_27 (fun v190 M191 rv190 hI p192 => ?_)
      obtain ⟨hI, hW⟩ := hI
      obtain ⟨⟨av190, bv190⟩, rfl⟩ := p192
      refine z_iconst F dX12_readThing_30 ?_
      refine z_icmp_eq (tgt := 39) F dX12_readThing_31 (by decide +kernel) (by omega) (by omega) (fun c193 => ?_) (fun c193 => ?_)
      · refine z_aload_n F dX12_readThing_39 rfl (q := 0) rfl ?_
        refine z_iconst F dX12_readThing_40 ?_
        refine z_aload_n F dX12_readThing_41 rfl (q := 0) rfl ?_
        refine rf_X12_13 F gs_131 rfl dX12_readThing_42 ?_
        refine z_iconst F dX12_readThing_45 ?_
        refine z_iald F hI gs_133 (by omega) (by omega) (by decide) (show Bd 133 1 = (0, 10) from rfl) dX12_readThing_46 (fun v194 (ev194 : v194 = M2 133 1) av194 bv194 => ?_)
        refine z_iconst F dX12_readThing_47 ?_
        refine z_isub F dX12_readThing_48 ?_
        refine zv_i (rest := []) F (kp_X12_number l M2 ⟨hI, hW⟩ 0 (by omega) (by omega) (v194 - 1) (by omega) (by omega) (by omega)) cs_X12_199 (T := TX12) (N := 44) (ci := 12) rfl gs_131 (by decide) (by decide) rfl rfl rfl (Nat.le_of_ble_eq_true rfl) dX12_readThing_49 (fun v195 M196 rv195 hI p197 => ?_)
        obtain ⟨hI, hW⟩ := hI
        obtain ⟨⟨av195, bv195⟩, fp197, xp197⟩ := p197
        have hF := hF.call fp197 (by decide)
        have tM196_133_6 : M196 133 6 = M2 133 6 := fp197.at (by decide)
        have tM196_133_1 : M196 133 1 = M2 133 1 := fp197.at (by decide)
        have tM196_133_2 : M196 133 2 = M2 133 2 := fp197.at (by decide)
        have tM196_133_4 : M196 133 4 = M2 133 4 := fp197.at (by decide)
        have hq9 := wl_fr fp197 (by decide)
        have hL := hq9.2 hL
        have cM196 := hq9.1
        clear hq9
        have hkv195 : 0 ≤ v195 ∧ v195 ≤ 9 := by omega
        refine z_istore_n F dX12_readThing_52 rfl (by decide) (ls' := [(1, ii v195), (0, .ref (ad 131))]) rfl ?_
        refine z_aload_n F dX12_readThing_53 rfl (q := 1) rfl ?_
        refine z_ldcS (j := 61) F dX12_readThing_54 rfl rfl rfl ?_
        refine z_eq (st' := [.ref (ad 1061), .ref (ad 131)]) rfl rfl rfl ?_
        refine zv_v (rest := []) F (kp_X12_mustWord_131_1061 l M196 ⟨hI, hW⟩ (by omega)) cs_X12_215 (T := TX12) (N := 44) (ci := 12) rfl gs_131 (by decide) (by decide) rfl rfl rfl (Nat.le_of_ble_eq_true rfl) dX12_readThing_56 (fun M198 hI p199 => ?_)
        obtain ⟨hI, hW⟩ := hI
        obtain ⟨fp199, xp199⟩ := p199
        have hF := hF.call fp199 (by decide)
        have tM198_133_6 : M198 133 6 = M196 133 6 := fp199.at (by decide)
        have tM198_133_1 : M198 133 1 = M196 133 1 := fp199.at (by decide)
        have tM198_133_2 : M198 133 2 = M196 133 2 := fp199.at (by decide)
        have tM198_133_4 : M198 133 4 = M196 133 4 := fp199.at (by decide)
        have hq9 := wl_fr fp199 (by decide)
        have hL := hq9.2 hL
        have cM198 := hq9.1
        clear hq9
        refine z_aload_n F dX12_readThing_59 rfl (q := 1) rfl ?_
        refine z_iconst F dX12_readThing_60 ?_
        refine z_bipush F dX12_readThing_61 (by decide +kernel) ?_
        refine zv_i (rest := []) F (kp_X12_number l M198 ⟨hI, hW⟩ 0 (by omega) (by omega) 99 (by omega) (by omega) (by omega)) cs_X12_199 (T := TX12) (N := 44) (ci := 12) rfl gs_131 (by decide) (by decide) rfl rfl rfl (Nat.le_of_ble_eq_true rfl) dX12_readThing_63 (fun v200 M201 rv200 hI p202 => ?_)
        obtain ⟨hI, hW⟩ := hI
        obtain ⟨⟨av200, bv200⟩, fp202, xp202⟩ := p202
        have hF := hF.call fp202 (by decide)
        have tM201_133_6 : M201 133 6 = M198 133 6 := fp202.at (by decide)
        have tM201_133_1 : M201 133 1 = M198 133 1 := fp202.at (by decide)
        have tM201_133_2 : M201 133 2 = M198 133 2 := fp202.at (by decide)
        have tM201_133_4 : M201 133 4 = M198 133 4 := fp202.at (by decide)
        have hq9 := wl_fr fp202 (by decide)
        have hL := hq9.2 hL
        have cM201 := hq9.1
        clear hq9
        have hkv200 : 0 ≤ v200 ∧ v200 ≤ 99 := by omega
        refine z_istore_n F dX12_readThing_66 rfl (by decide) (ls' := [(2, ii v200), (1, ii v195), (0, .ref (ad 131))]) rfl ?_
        refine z_aload_n F dX12_readThing_67 rfl (q := 2) rfl ?_
        refine z_ldcS (j := 62) F dX12_readThing_68 rfl rfl rfl ?_
        refine z_eq (st' := [.ref (ad 1062), .ref (ad 131)]) rfl rfl rfl ?_
        refine zv_i (rest := []) F (kp_X12_took_131_1062 l M201 ⟨hI, hW⟩ (by omega)) cs_X12_130 (T := TX12) (N := 44) (ci := 12) rfl gs_131 (by decide) (by decide) rfl rfl rfl (Nat.le_of_ble_eq_true rfl) dX12_readThing_70 (fun v203 M204 rv203 hI p205 => ?_)
        obtain ⟨hI, hW⟩ := hI
        obtain ⟨⟨av203, bv203⟩, fp205, xp205⟩ := p205
        have hF := hF.call fp205 (by decide)
        have tM204_133_6 : M204 133 6 = M201 133 6 := fp205.at (by decide)
        have tM204_133_1 : M204 133 1 = M201 133 1 := fp205.at (by decide)
        have tM204_133_2 : M204 133 2 = M201 133 2 := fp205.at (by decide)
        have tM204_133_4 : M204 133 4 = M201 133 4 := fp205.at (by decide)
        have hq9 := wl_fr fp205 (by decide)
        have hL := hq9.2 hL
        have cM204 := hq9.1
        clear hq9
        refine z_if_eq (tgt := 86) F dX12_readThing_73 (by decide +kernel) (by omega) (fun c206 => ?_) (fun c206 => ?_)
        · refine z_iconst F dX12_readThing_86 ?_
          refine z_istore_n F dX12_readThing_87 rfl (by decide) (ls' := [(3, ii 0), (2, ii v200), (1, ii v195), (0, .ref (ad 131))]) rfl ?_
          refine z_aload_n F dX12_readThing_88 rfl (q := 3) rfl ?_
          refine z_ldcS (j := 63) F dX12_readThing_89 rfl rfl rfl ?_
          refine z_eq (st' := [.ref (ad 1063), .ref (ad 131)]) rfl rfl rfl ?_
          refine zv_i (rest := []) F (kp_X12_took_131_1063 l M204 ⟨hI, hW⟩ (by omega)) cs_X12_130 (T := TX12) (N := 44) (ci := 12) rfl gs_131 (by decide) (by decide) rfl rfl rfl (Nat.le_of_ble_eq_true rfl) dX12_readThing_91 (fun v207 M208 rv207 hI p209 => ?_)
          obtain ⟨hI, hW⟩ := hI
          obtain ⟨⟨av207, bv207⟩, fp209, xp209⟩ := p209
          have hF := hF.call fp209 (by decide)
          have tM208_133_6 : M208 133 6 = M204 133 6 := fp209.at (by decide)
          have tM208_133_1 : M208 133 1 = M204 133 1 := fp209.at (by decide)
          have tM208_133_2 : M208 133 2 = M204 133 2 := fp209.at (by decide)
          have tM208_133_4 : M208 133 4 = M204 133 4 := fp209.at (by decide)
          have hq9 := wl_fr fp209 (by decide)
          have hL := hq9.2 hL
          have cM208 := hq9.1
          clear hq9
          refine z_if_eq (tgt := 107) F dX12_readThing_94 (by decide +kernel) (by omega) (fun c210 => ?_) (fun c210 => ?_)
          · refine z_iconst F dX12_readThing_107 ?_
            refine z_istore F dX12_readThing_108 (by decide) (ls' := [(4, ii 1), (3, ii 0), (2, ii v200), (1, ii v195), (0, .ref (ad 131))]) rfl ?_
            refine z_aload_n F dX12_readThing_110 rfl (q := 4) rfl ?_
            refine z_ldcS (j := 64) F dX12_readThing_111 rfl rfl rfl ?_
            refine z_eq (st' := [.ref (ad 1064), .ref (ad 131)]) rfl rfl rfl ?_
            refine zv_i (rest := []) F (kp_X12_took_131_1064 l M208 ⟨hI, hW⟩ (by omega)) cs_X12_130 (T := TX12) (N := 44) (ci := 12) rfl gs_131 (by decide) (by decide) rfl rfl rfl (Nat.le_of_ble_eq_true rfl) dX12_readThing_113 (fun v211 M212 rv211 hI p213 => ?_)
            obtain ⟨hI, hW⟩ := hI
            obtain ⟨⟨av211, bv211⟩, fp213, xp213⟩ := p213
            have hF := hF.call fp213 (by decide)
            have tM212_133_6 : M212 133 6 = M208 133 6 := fp213.at (by decide)
            have tM212_133_1 : M212 133 1 = M208 133 1 := fp213.at (by decide)
            have tM212_133_2 : M212 133 2 = M208 133 2 := fp213.at (by decide)
            have tM212_133_4 : M212 133 4 = M208 133 4 := fp213.at (by decide)
            have hq9 := wl_fr fp213 (by decide)
            have hL := hq9.2 hL
            have cM212 := hq9.1
            clear hq9
            refine z_istore F dX12_readThing_116 (by decide) (ls' := [(5, ii v211), (4, ii 1), (3, ii 0), (2, ii v200), (1, ii v195), (0, .ref (ad 131))]) rfl ?_
            refine z_aload_n F dX12_readThing_118 rfl (q := 5) rfl ?_
            refine gf_X12_108 F hI gs_131 rfl bd_131_12 dX12_readThing_119 (fun v214 ev214 av214 bv214 => ?_)
            refine z_if_eq (tgt := 126) F dX12_readThing_122 (by decide +kernel) (by omega) (fun c215 => ?_) (fun c215 => ?_)
            · refine z_aload_n F dX12_readThing_126 rfl (q := 5) rfl ?_
              refine rf_X12_13 F gs_131 rfl dX12_readThing_127 ?_
              refine z_iconst F dX12_readThing_130 ?_
              refine z_iald F hI gs_133 (by omega) (by omega) (by decide) (show Bd 133 2 = (0, 8) from rfl) dX12_readThing_131 (fun v216 (ev216 : v216 = M212 133 2) av216 bv216 => ?_)
              have k217 : 0 ≤ v216 ∧ v216 ≤ 7 := by omega
              refine z_istore F dX12_readThing_132 (by decide) (ls' := [(6, ii v216), (5, ii v211), (4, ii 1), (3, ii 0), (2, ii v200), (1, ii v195), (0, .ref (ad 131))]) rfl ?_
              refine z_aload_n F dX12_readThing_134 rfl (q := 6) rfl ?_
              refine rf_X12_13 F gs_131 rfl dX12_readThing_135 ?_
              refine z_bipush F dX12_readThing_138 (by decide +kernel) ?_
              refine z_iload F dX12_readThing_140 (q := 0) rfl ?_
              refine z_iadd F dX12_readThing_142 ?_
              refine z_iload_n F dX12_readThing_143 rfl (q := 5) rfl ?_
              refine z_iast F hI gs_133 (by omega) (by omega) (by decide) (bd_133.trans (kn_at (by omega) (by omega))) dX12_readThing_144 (by omega) (by omega) (fun M219 hI sf218 f218 => ?_)
              have tM219_131_7 : M219 131 7 = M212 131 7 := f218 131 7 (fun q => absurd q.1 (by decide))
              have tM219_131_8 : M219 131 8 = M212 131 8 := f218 131 8 (fun q => absurd q.1 (by decide))
              have tM219_131_9 : M219 131 9 = M212 131 9 := f218 131 9 (fun q => absurd q.1 (by decide))
              have tM219_131_10 : M219 131 10 = M212 131 10 := f218 131 10 (fun q => absurd q.1 (by decide))
              have tM219_131_12 : M219 131 12 = M212 131 12 := f218 131 12 (fun q => absurd q.1 (by decide))
              have tM219_131_16 : M219 131 16 = M212 131 16 := f218 131 16 (fun q => absurd q.1 (by decide))
              have tM219_133_6 : M219 133 6 = M212 133 6 := f218 133 6 (fun q => by have := q.2; omega)
              have tM219_133_1 : M219 133 1 = M212 133 1 := f218 133 1 (fun q => by have := q.2; omega)
              have tM219_133_2 : M219 133 2 = M212 133 2 := f218 133 2 (fun q => by have := q.2; omega)
              have tM219_133_4 : M219 133 4 = M212 133 4 := f218 133 4 (fun q => by have := q.2; omega)
              have hq9 := wl_wr f218 (by omega)
              have hL := hq9.2 hL
              have cM219 := hq9.1
              clear hq9
              have hF := hF.wr f218 (by decide) (by decide)
              have hW : WFk M219 := hW.site f218 (by decide)
              refine z_aload_n F dX12_readThing_145 rfl (q := 6) rfl ?_
              refine rf_X12_13 F gs_131 rfl dX12_readThing_146 ?_
              refine z_bipush F dX12_readThing_149 (by decide +kernel) ?_
              refine z_iload F dX12_readThing_151 (q := 0) rfl ?_
              refine z_iadd F dX12_readThing_153 ?_
              refine z_iload_n F dX12_readThing_154 rfl (q := 4) rfl ?_
              refine z_iast F hI gs_133 (by omega) (by omega) (by decide) (bd_133.trans (kn_any (by omega) (by omega))) dX12_readThing_155 (by omega) (by omega) (fun M221 hI sf220 f220 => ?_)
              have tM221_131_7 : M221 131 7 = M219 131 7 := f220 131 7 (fun q => absurd q.1 (by decide))
              have tM221_131_8 : M221 131 8 = M219 131 8 := f220 131 8 (fun q => absurd q.1 (by decide))
              have tM221_131_9 : M221 131 9 = M219 131 9 := f220 131 9 (fun q => absurd q.1 (by decide))
              have tM221_131_10 : M221 131 10 = M219 131 10 := f220 131 10 (fun q => absurd q.1 (by decide))
              have tM221_131_12 : M221 131 12 = M219 131 12 := f220 131 12 (fun q => absurd q.1 (by decide))
              have tM221_131_16 : M221 131 16 = M219 131 16 := f220 131 16 (fun q => absurd q.1 (by decide))
              have tM221_133_6 : M221 133 6 = M219 133 6 := f220 133 6 (fun q => by have := q.2; omega)
              have tM221_133_1 : M221 133 1 = M219 133 1 := f220 133 1 (fun q => by have := q.2; omega)
              have tM221_133_2 : M221 133 2 = M219 133 2 := f220 133 2 (fun q => by have := q.2; omega)
              have tM221_133_4 : M221 133 4 = M219 133 4 := f220 133 4 (fun q => by have := q.2; omega)
              have hq9 := wl_wr f220 (by omega)
              have hL := hq9.2 hL
              have cM221 := hq9.1
              clear hq9
              have hF := hF.wr f220 (by decide) (by decide)
              have hW : WFk M221 := hW.site f220 (by decide)
              refine z_aload_n F dX12_readThing_156 rfl (q := 6) rfl ?_
              refine rf_X12_13 F gs_131 rfl dX12_readThing_157 ?_
              refine z_bipush F dX12_readThing_160 (by decide +kernel) ?_
              refine z_iload F dX12_readThing_162 (q := 0) rfl ?_
              refine z_iadd F dX12_readThing_164 ?_
              refine z_iload_n F dX12_readThing_165 rfl (q := 3) rfl ?_
              refine z_iast F hI gs_133 (by omega) (by omega) (by decide) (bd_133.trans (kn_any (by omega) (by omega))) dX12_readThing_166 (by omega) (by omega) (fun M223 hI sf222 f222 => ?_)
              have tM223_131_7 : M223 131 7 = M221 131 7 := f222 131 7 (fun q => absurd q.1 (by decide))
              have tM223_131_8 : M223 131 8 = M221 131 8 := f222 131 8 (fun q => absurd q.1 (by decide))
              have tM223_131_9 : M223 131 9 = M221 131 9 := f222 131 9 (fun q => absurd q.1 (by decide))
              have tM223_131_10 : M223 131 10 = M221 131 10 := f222 131 10 (fun q => absurd q.1 (by decide))
              have tM223_131_12 : M223 131 12 = M221 131 12 := f222 131 12 (fun q => absurd q.1 (by decide))
              have tM223_131_16 : M223 131 16 = M221 131 16 := f222 131 16 (fun q => absurd q.1 (by decide))
              have tM223_133_6 : M223 133 6 = M221 133 6 := f222 133 6 (fun q => by have := q.2; omega)
              have tM223_133_1 : M223 133 1 = M221 133 1 := f222 133 1 (fun q => by have := q.2; omega)
              have tM223_133_2 : M223 133 2 = M221 133 2 := f222 133 2 (fun q => by have := q.2; omega)
              have tM223_133_4 : M223 133 4 = M221 133 4 := f222 133 4 (fun q => by have := q.2; omega)
              have hq9 := wl_wr f222 (by omega)
              have hL := hq9.2 hL
              have cM223 := hq9.1
              clear hq9
              have hF := hF.wr f222 (by decide) (by decide)
              have hW : WFk M223 := hW.site f222 (by decide)
              refine z_aload_n F dX12_readThing_167 rfl (q := 6) rfl ?_
              refine rf_X12_13 F gs_131 rfl dX12_readThing_168 ?_
              refine z_bipush F dX12_readThing_171 (by decide +kernel) ?_
              refine z_iload F dX12_readThing_173 (q := 0) rfl ?_
              refine z_iadd F dX12_readThing_175 ?_
              refine z_iload F dX12_readThing_176 (q := 2) rfl ?_
              refine z_iast F hI gs_133 (by omega) (by omega) (by decide) (bd_133.trans (kn_any (by omega) (by omega))) dX12_readThing_178 (by omega) (by omega) (fun M225 hI sf224 f224 => ?_)
              have tM225_131_7 : M225 131 7 = M223 131 7 := f224 131 7 (fun q => absurd q.1 (by decide))
              have tM225_131_8 : M225 131 8 = M223 131 8 := f224 131 8 (fun q => absurd q.1 (by decide))
              have tM225_131_9 : M225 131 9 = M223 131 9 := f224 131 9 (fun q => absurd q.1 (by decide))
              have tM225_131_10 : M225 131 10 = M223 131 10 := f224 131 10 (fun q => absurd q.1 (by decide))
              have tM225_131_12 : M225 131 12 = M223 131 12 := f224 131 12 (fun q => absurd q.1 (by decide))
              have tM225_131_16 : M225 131 16 = M223 131 16 := f224 131 16 (fun q => absurd q.1 (by decide))
              have tM225_133_6 : M225 133 6 = M223 133 6 := f224 133 6 (fun q => by have := q.2; omega)
              have tM225_133_1 : M225 133 1 = M223 133 1 := f224 133 1 (fun q => by have := q.2; omega)
              have tM225_133_2 : M225 133 2 = M223 133 2 := f224 133 2 (fun q => by have := q.2; omega)
              have tM225_133_4 : M225 133 4 = M223 133 4 := f224 133 4 (fun q => by have := q.2; omega)
              have hq9 := wl_wr f224 (by omega)
              have hL := hq9.2 hL
              have cM225 := hq9.1
              clear hq9
              have hF := hF.wr f224 (by decide) (by decide)
              have hW : WFk M225 := hW.site f224 (by decide)
              refine z_aload_n F dX12_readThing_179 rfl (q := 6) rfl ?_
              refine rf_X12_13 F gs_131 rfl dX12_readThing_180 ?_
              refine z_bipush F dX12_readThing_183 (by decide +kernel) ?_
              refine z_iload F dX12_readThing_185 (q := 0) rfl ?_
              refine z_iadd F dX12_readThing_187 ?_
              refine z_iload F dX12_readThing_188 (q := 1) rfl ?_
              refine z_if_eq (tgt := 197) F dX12_readThing_190 (by decide +kernel) (by omega) (fun c226 => ?_) (fun c226 => ?_)
              · refine z_iconst F dX12_readThing_197 ?_
                refine z_iast F hI gs_133 (by omega) (by omega) (by decide) (bd_133.trans (kn_any (by omega) (by omega))) dX12_readThing_198 (by omega) (by omega) (fun M228 hI sf227 f227 => ?_)
                have tM228_131_7 : M228 131 7 = M225 131 7 := f227 131 7 (fun q => absurd q.1 (by decide))
                have tM228_131_8 : M228 131 8 = M225 131 8 := f227 131 8 (fun q => absurd q.1 (by decide))
                have tM228_131_9 : M228 131 9 = M225 131 9 := f227 131 9 (fun q => absurd q.1 (by decide))
                have tM228_131_10 : M228 131 10 = M225 131 10 := f227 131 10 (fun q => absurd q.1 (by decide))
                have tM228_131_12 : M228 131 12 = M225 131 12 := f227 131 12 (fun q => absurd q.1 (by decide))
                have tM228_131_16 : M228 131 16 = M225 131 16 := f227 131 16 (fun q => absurd q.1 (by decide))
                have tM228_133_6 : M228 133 6 = M225 133 6 := f227 133 6 (fun q => by have := q.2; omega)
                have tM228_133_1 : M228 133 1 = M225 133 1 := f227 133 1 (fun q => by have := q.2; omega)
                have tM228_133_2 : M228 133 2 = M225 133 2 := f227 133 2 (fun q => by have := q.2; omega)
                have tM228_133_4 : M228 133 4 = M225 133 4 := f227 133 4 (fun q => by have := q.2; omega)
                have hq9 := wl_wr f227 (by omega)
                have hL := hq9.2 hL
                have cM228 := hq9.1
                clear hq9
                have hF := hF.wr f227 (by decide) (by decide)
                have hW : WFk M228 := hW.site f227 (by decide)
                refine z_aload_n F dX12_readThing_199 rfl (q := 6) rfl ?_
                refine rf_X12_13 F gs_131 rfl dX12_readThing_200 ?_
                refine z_iconst F dX12_readThing_203 ?_
                refine z_dup2 F dX12_readThing_204 rfl rfl ?_
                refine z_iald F hI gs_133 (by omega) (by omega) (by decide) (show Bd 133 2 = (0, 8) from rfl) dX12_readThing_205 (fun v229 (ev229 : v229 = M228 133 2) av229 bv229 => ?_)
                have q230 : v216 = M219 133 2 := ev216.trans (f218 133 2 (fun q => by omega)).symm
                have q231 : v216 = M221 133 2 := q230.trans (f220 133 2 (fun q => by omega)).symm
                have q232 : v216 = M223 133 2 := q231.trans (f222 133 2 (fun q => by omega)).symm
                have q233 : v216 = M225 133 2 := q232.trans (f224 133 2 (fun q => by omega)).symm
                have q234 : v216 = M228 133 2 := q233.trans (f227 133 2 (fun q => by omega)).symm
                have zv229 : v216 = v229 := q234.trans ev229.symm
                subst zv229
                refine z_iconst F dX12_readThing_206 ?_
                refine z_iadd F dX12_readThing_207 ?_
                refine z_nm (fun v236 ev236 => ?_)
                refine z_iast F hI gs_133 (by omega) (by omega) (by decide) (show Bd 133 2 = (0, 8) from rfl) dX12_readThing_208 (by omega) (by omega) (fun M237 hI sf235 f235 => ?_)
                have tM237_131_7 : M237 131 7 = M228 131 7 := f235 131 7 (fun q => absurd q.1 (by decide))
                have tM237_131_8 : M237 131 8 = M228 131 8 := f235 131 8 (fun q => absurd q.1 (by decide))
                have tM237_131_9 : M237 131 9 = M228 131 9 := f235 131 9 (fun q => absurd q.1 (by decide))
                have tM237_131_10 : M237 131 10 = M228 131 10 := f235 131 10 (fun q => absurd q.1 (by decide))
                have tM237_131_12 : M237 131 12 = M228 131 12 := f235 131 12 (fun q => absurd q.1 (by decide))
                have tM237_131_16 : M237 131 16 = M228 131 16 := f235 131 16 (fun q => absurd q.1 (by decide))
                have tM237_133_6 : M237 133 6 = M228 133 6 := f235 133 6 (fun q => absurd q.2 (by decide))
                have tM237_133_1 : M237 133 1 = M228 133 1 := f235 133 1 (fun q => absurd q.2 (by decide))
                have tM237_133_4 : M237 133 4 = M228 133 4 := f235 133 4 (fun q => absurd q.2 (by decide))
                have hq9 := wl_wr f235 (by omega)
                have hL := hq9.2 hL
                have cM237 := hq9.1
                clear hq9
                have hF := hF.wr f235 (by decide) (by decide)
                have hW : WFk M237 := hW.site f235 (by decide)
                have sf235 : M237 133 2 = v236 := sf235
                exact hret _ 209 _ ⟨hI, hW⟩ ⟨hF, ⟨hL, by omega⟩⟩ dX12_readThing_209
              · refine z_iconst F dX12_readThing_193 ?_
                refine z_goto (tgt := 198) F dX12_readThing_194 (by decide +kernel) ?_
                refine z_iast F hI gs_133 (by omega) (by omega) (by decide) (bd_133.trans (kn_any (by omega) (by omega))) dX12_readThing_198 (by omega) (by omega) (fun M239 hI sf238 f238 => ?_)
                have tM239_131_7 : M239 131 7 = M225 131 7 := f238 131 7 (fun q => absurd q.1 (by decide))
                have tM239_131_8 : M239 131 8 = M225 131 8 := f238 131 8 (fun q => absurd q.1 (by decide))
                have tM239_131_9 : M239 131 9 = M225 131 9 := f238 131 9 (fun q => absurd q.1 (by decide))
                have tM239_131_10 : M239 131 10 = M225 131 10 := f238 131 10 (fun q => absurd q.1 (by decide))
                have tM239_131_12 : M239 131 12 = M225 131 12 := f238 131 12 (fun q => absurd q.1 (by decide))
                have tM239_131_16 : M239 131 16 = M225 131 16 := f238 131 16 (fun q => absurd q.1 (by decide))
                have tM239_133_6 : M239 133 6 = M225 133 6 := f238 133 6 (fun q => by have := q.2; omega)
                have tM239_133_1 : M239 133 1 = M225 133 1 := f238 133 1 (fun q => by have := q.2; omega)
                have tM239_133_2 : M239 133 2 = M225 133 2 := f238 133 2 (fun q => by have := q.2; omega)
                have tM239_133_4 : M239 133 4 = M225 133 4 := f238 133 4 (fun q => by have := q.2; omega)
                have hq9 := wl_wr f238 (by omega)
                have hL := hq9.2 hL
                have cM239 := hq9.1
                clear hq9
                have hF := hF.wr f238 (by decide) (by decide)
                have hW : WFk M239 := hW.site f238 (by decide)
                refine z_aload_n F dX12_readThing_199 rfl (q := 6) rfl ?_
                refine rf_X12_13 F gs_131 rfl dX12_readThing_200 ?_
                refine z_iconst F dX12_readThing_203 ?_
                refine z_dup2 F dX12_readThing_204 rfl rfl ?_
                refine z_iald F hI gs_133 (by omega) (by omega) (by decide) (show Bd 133 2 = (0, 8) from rfl) dX12_readThing_205 (fun v240 (ev240 : v240 = M239 133 2) av240 bv240 => ?_)
                have q241 : v216 = M219 133 2 := ev216.trans (f218 133 2 (fun q => by omega)).symm
                have q242 : v216 = M221 133 2 := q241.trans (f220 133 2 (fun q => by omega)).symm
                have q243 : v216 = M223 133 2 := q242.trans (f222 133 2 (fun q => by omega)).symm
                have q244 : v216 = M225 133 2 := q243.trans (f224 133 2 (fun q => by omega)).symm
                have q245 : v216 = M239 133 2 := q244.trans (f238 133 2 (fun q => by omega)).symm
                have zv240 : v216 = v240 := q245.trans ev240.symm
                subst zv240
                refine z_iconst F dX12_readThing_206 ?_
                refine z_iadd F dX12_readThing_207 ?_
                refine z_nm (fun v247 ev247 => ?_)
                refine z_iast F hI gs_133 (by omega) (by omega) (by decide) (show Bd 133 2 = (0, 8) from rfl) dX12_readThing_208 (by omega) (by omega) (fun M248 hI sf246 f246 => ?_)
                have tM248_131_7 : M248 131 7 = M239 131 7 := f246 131 7 (fun q => absurd q.1 (by decide))
                have tM248_131_8 : M248 131 8 = M239 131 8 := f246 131 8 (fun q => absurd q.1 (by decide))
                have tM248_131_9 : M248 131 9 = M239 131 9 := f246 131 9 (fun q => absurd q.1 (by decide))
                have tM248_131_10 : M248 131 10 = M239 131 10 := f246 131 10 (fun q => absurd q.1 (by decide))
                have tM248_131_12 : M248 131 12 = M239 131 12 := f246 131 12 (fun q => absurd q.1 (by decide))
                have tM248_131_16 : M248 131 16 = M239 131 16 := f246 131 16 (fun q => absurd q.1 (by decide))
                have tM248_133_6 : M248 133 6 = M239 133 6 := f246 133 6 (fun q => absurd q.2 (by decide))
                have tM248_133_1 : M248 133 1 = M239 133 1 := f246 133 1 (fun q => absurd q.2 (by decide))
                have tM248_133_4 : M248 133 4 = M239 133 4 := f246 133 4 (fun q => absurd q.2 (by decide))
                have hq9 := wl_wr f246 (by omega)
                have hL := hq9.2 hL
                have cM248 := hq9.1
                clear hq9
                have hF := hF.wr f246 (by decide) (by decide)
                have hW : WFk M248 := hW.site f246 (by decide)
                have sf246 : M248 133 2 = v247 := sf246
                exact hret _ 209 _ ⟨hI, hW⟩ ⟨hF, ⟨hL, by omega⟩⟩ dX12_readThing_209
            · exact hret _ 125 _ ⟨hI, hW⟩ ⟨hF, ⟨hL, by omega⟩⟩ dX12_readThing_125
          · refine z_aload_n F dX12_readThing_97 rfl (q := 3) rfl ?_
            refine z_iconst F dX12_readThing_98 ?_
            refine z_bipush F dX12_readThing_99 (by decide +kernel) ?_
            refine zv_i (rest := []) F (kp_X12_number l M208 ⟨hI, hW⟩ 1 (by omega) (by omega) 9 (by omega) (by omega) (by omega)) cs_X12_199 (T := TX12) (N := 44) (ci := 12) rfl gs_131 (by decide) (by decide) rfl rfl rfl (Nat.le_of_ble_eq_true rfl) dX12_readThing_101 (fun v249 M250 rv249 hI p251 => ?_)
            obtain ⟨hI, hW⟩ := hI
            obtain ⟨⟨av249, bv249⟩, fp251, xp251⟩ := p251
            have hF := hF.call fp251 (by decide)
            have tM250_133_6 : M250 133 6 = M208 133 6 := fp251.at (by decide)
            have tM250_133_1 : M250 133 1 = M208 133 1 := fp251.at (by decide)
            have tM250_133_2 : M250 133 2 = M208 133 2 := fp251.at (by decide)
            have tM250_133_4 : M250 133 4 = M208 133 4 := fp251.at (by decide)
            have hq9 := wl_fr fp251 (by decide)
            have hL := hq9.2 hL
            have cM250 := hq9.1
            clear hq9
            have hkv249 : 1 ≤ v249 ∧ v249 ≤ 9 := by omega
            refine z_goto (tgt := 108) F dX12_readThing_104 (by decide +kernel) ?_
            refine z_istore F dX12_readThing_108 (by decide) (ls' := [(4, ii v249), (3, ii 0), (2, ii v200), (1, ii v195), (0, .ref (ad 131))]) rfl ?_
            refine z_aload_n F dX12_readThing_110 rfl (q := 4) rfl ?_
            refine z_ldcS (j := 64) F dX12_readThing_111 rfl rfl rfl ?_
            refine z_eq (st' := [.ref (ad 1064), .ref (ad 131)]) rfl rfl rfl ?_
            refine zv_i (rest := []) F (kp_X12_took_131_1064 l M250 ⟨hI, hW⟩ (by omega)) cs_X12_130 (T := TX12) (N := 44) (ci := 12) rfl gs_131 (by decide) (by decide) rfl rfl rfl (Nat.le_of_ble_eq_true rfl) dX12_readThing_113 (fun v252 M253 rv252 hI p254 => ?_)
            obtain ⟨hI, hW⟩ := hI
            obtain ⟨⟨av252, bv252⟩, fp254, xp254⟩ := p254
            have hF := hF.call fp254 (by decide)
            have tM253_133_6 : M253 133 6 = M250 133 6 := fp254.at (by decide)
            have tM253_133_1 : M253 133 1 = M250 133 1 := fp254.at (by decide)
            have tM253_133_2 : M253 133 2 = M250 133 2 := fp254.at (by decide)
            have tM253_133_4 : M253 133 4 = M250 133 4 := fp254.at (by decide)
            have hq9 := wl_fr fp254 (by decide)
            have hL := hq9.2 hL
            have cM253 := hq9.1
            clear hq9
            refine z_istore F dX12_readThing_116 (by decide) (ls' := [(5, ii v252), (4, ii v249), (3, ii 0), (2, ii v200), (1, ii v195), (0, .ref (ad 131))]) rfl ?_
            refine z_aload_n F dX12_readThing_118 rfl (q := 5) rfl ?_
            refine gf_X12_108 F hI gs_131 rfl bd_131_12 dX12_readThing_119 (fun v255 ev255 av255 bv255 => ?_)
            refine z_if_eq (tgt := 126) F dX12_readThing_122 (by decide +kernel) (by omega) (fun c256 => ?_) (fun c256 => ?_)
            · refine z_aload_n F dX12_readThing_126 rfl (q := 5) rfl ?_
              refine rf_X12_13 F gs_131 rfl dX12_readThing_127 ?_
              refine z_iconst F dX12_readThing_130 ?_
              refine z_iald F hI gs_133 (by omega) (by omega) (by decide) (show Bd 133 2 = (0, 8) from rfl) dX12_readThing_131 (fun v257 (ev257 : v257 = M253 133 2) av257 bv257 => ?_)
              have k258 : 0 ≤ v257 ∧ v257 ≤ 7 := by omega
              refine z_istore F dX12_readThing_132 (by decide) (ls' := [(6, ii v257), (5, ii v252), (4, ii v249), (3, ii 0), (2, ii v200), (1, ii v195), (0, .ref (ad 131))]) rfl ?_
              refine z_aload_n F dX12_readThing_134 rfl (q := 6) rfl ?_
              refine rf_X12_13 F gs_131 rfl dX12_readThing_135 ?_
              refine z_bipush F dX12_readThing_138 (by decide +kernel) ?_
              refine z_iload F dX12_readThing_140 (q := 0) rfl ?_
              refine z_iadd F dX12_readThing_142 ?_
              refine z_iload_n F dX12_readThing_143 rfl (q := 5) rfl ?_
              refine z_iast F hI gs_133 (by omega) (by omega) (by decide) (bd_133.trans (kn_at (by omega) (by omega))) dX12_readThing_144 (by omega) (by omega) (fun M260 hI sf259 f259 => ?_)
              have tM260_131_7 : M260 131 7 = M253 131 7 := f259 131 7 (fun q => absurd q.1 (by decide))
              have tM260_131_8 : M260 131 8 = M253 131 8 := f259 131 8 (fun q => absurd q.1 (by decide))
              have tM260_131_9 : M260 131 9 = M253 131 9 := f259 131 9 (fun q => absurd q.1 (by decide))
              have tM260_131_10 : M260 131 10 = M253 131 10 := f259 131 10 (fun q => absurd q.1 (by decide))
              have tM260_131_12 : M260 131 12 = M253 131 12 := f259 131 12 (fun q => absurd q.1 (by decide))
              have tM260_131_16 : M260 131 16 = M253 131 16 := f259 131 16 (fun q => absurd q.1 (by decide))
              have tM260_133_6 : M260 133 6 = M253 133 6 := f259 133 6 (fun q => by have := q.2; omega)
              have tM260_133_1 : M260 133 1 = M253 133 1 := f259 133 1 (fun q => by have := q.2; omega)
              have tM260_133_2 : M260 133 2 = M253 133 2 := f259 133 2 (fun q => by have := q.2; omega)
              have tM260_133_4 : M260 133 4 = M253 133 4 := f259 133 4 (fun q => by have := q.2; omega)
              have hq9 := wl_wr f259 (by omega)
              have hL := hq9.2 hL
              have cM260 := hq9.1
              clear hq9
              have hF := hF.wr f259 (by decide) (by decide)
              have hW : WFk M260 := hW.site f259 (by decide)
              refine z_aload_n F dX12_readThing_145 rfl (q := 6) rfl ?_
              refine rf_X12_13 F gs_131 rfl dX12_readThing_146 ?_
              refine z_bipush F dX12_readThing_149 (by decide +kernel) ?_
              refine z_iload F dX12_readThing_151 (q := 0) rfl ?_
              refine z_iadd F dX12_readThing_153 ?_
              refine z_iload_n F dX12_readThing_154 rfl (q := 4) rfl ?_
              refine z_iast F hI gs_133 (by omega) (by omega) (by decide) (bd_133.trans (kn_any (by omega) (by omega))) dX12_readThing_155 (by omega) (by omega) (fun M262 hI sf261 f261 => ?_)
              have tM262_131_7 : M262 131 7 = M260 131 7 := f261 131 7 (fun q => absurd q.1 (by decide))
              have tM262_131_8 : M262 131 8 = M260 131 8 := f261 131 8 (fun q => absurd q.1 (by decide))
              have tM262_131_9 : M262 131 9 = M260 131 9 := f261 131 9 (fun q => absurd q.1 (by decide))
              have tM262_131_10 : M262 131 10 = M260 131 10 := f261 131 10 (fun q => absurd q.1 (by decide))
              have tM262_131_12 : M262 131 12 = M260 131 12 := f261 131 12 (fun q => absurd q.1 (by decide))
              have tM262_131_16 : M262 131 16 = M260 131 16 := f261 131 16 (fun q => absurd q.1 (by decide))
              have tM262_133_6 : M262 133 6 = M260 133 6 := f261 133 6 (fun q => by have := q.2; omega)
              have tM262_133_1 : M262 133 1 = M260 133 1 := f261 133 1 (fun q => by have := q.2; omega)
              have tM262_133_2 : M262 133 2 = M260 133 2 := f261 133 2 (fun q => by have := q.2; omega)
              have tM262_133_4 : M262 133 4 = M260 133 4 := f261 133 4 (fun q => by have := q.2; omega)
              have hq9 := wl_wr f261 (by omega)
              have hL := hq9.2 hL
              have cM262 := hq9.1
              clear hq9
              have hF := hF.wr f261 (by decide) (by decide)
              have hW : WFk M262 := hW.site f261 (by decide)
              refine z_aload_n F dX12_readThing_156 rfl (q := 6) rfl ?_
              refine rf_X12_13 F gs_131 rfl dX12_readThing_157 ?_
              refine z_bipush F dX12_readThing_160 (by decide +kernel) ?_
              refine z_iload F dX12_readThing_162 (q := 0) rfl ?_
              refine z_iadd F dX12_readThing_164 ?_
              refine z_iload_n F dX12_readThing_165 rfl (q := 3) rfl ?_
              refine z_iast F hI gs_133 (by omega) (by omega) (by decide) (bd_133.trans (kn_any (by omega) (by omega))) dX12_readThing_166 (by omega) (by omega) (fun M264 hI sf263 f263 => ?_)
              have tM264_131_7 : M264 131 7 = M262 131 7 := f263 131 7 (fun q => absurd q.1 (by decide))
              have tM264_131_8 : M264 131 8 = M262 131 8 := f263 131 8 (fun q => absurd q.1 (by decide))
              have tM264_131_9 : M264 131 9 = M262 131 9 := f263 131 9 (fun q => absurd q.1 (by decide))
              have tM264_131_10 : M264 131 10 = M262 131 10 := f263 131 10 (fun q => absurd q.1 (by decide))
              have tM264_131_12 : M264 131 12 = M262 131 12 := f263 131 12 (fun q => absurd q.1 (by decide))
              have tM264_131_16 : M264 131 16 = M262 131 16 := f263 131 16 (fun q => absurd q.1 (by decide))
              have tM264_133_6 : M264 133 6 = M262 133 6 := f263 133 6 (fun q => by have := q.2; omega)
              have tM264_133_1 : M264 133 1 = M262 133 1 := f263 133 1 (fun q => by have := q.2; omega)
              have tM264_133_2 : M264 133 2 = M262 133 2 := f263 133 2 (fun q => by have := q.2; omega)
              have tM264_133_4 : M264 133 4 = M262 133 4 := f263 133 4 (fun q => by have := q.2; omega)
              have hq9 := wl_wr f263 (by omega)
              have hL := hq9.2 hL
              have cM264 := hq9.1
              clear hq9
              have hF := hF.wr f263 (by decide) (by decide)
              have hW : WFk M264 := hW.site f263 (by decide)
              refine z_aload_n F dX12_readThing_167 rfl (q := 6) rfl ?_
              refine rf_X12_13 F gs_131 rfl dX12_readThing_168 ?_
              refine z_bipush F dX12_readThing_171 (by decide +kernel) ?_
              refine z_iload F dX12_readThing_173 (q := 0) rfl ?_
              refine z_iadd F dX12_readThing_175 ?_
              refine z_iload F dX12_readThing_176 (q := 2) rfl ?_
              refine z_iast F hI gs_133 (by omega) (by omega) (by decide) (bd_133.trans (kn_any (by omega) (by omega))) dX12_readThing_178 (by omega) (by omega) (fun M266 hI sf265 f265 => ?_)
              have tM266_131_7 : M266 131 7 = M264 131 7 := f265 131 7 (fun q => absurd q.1 (by decide))
              have tM266_131_8 : M266 131 8 = M264 131 8 := f265 131 8 (fun q => absurd q.1 (by decide))
              have tM266_131_9 : M266 131 9 = M264 131 9 := f265 131 9 (fun q => absurd q.1 (by decide))
              have tM266_131_10 : M266 131 10 = M264 131 10 := f265 131 10 (fun q => absurd q.1 (by decide))
              have tM266_131_12 : M266 131 12 = M264 131 12 := f265 131 12 (fun q => absurd q.1 (by decide))
              have tM266_131_16 : M266 131 16 = M264 131 16 := f265 131 16 (fun q => absurd q.1 (by decide))
              have tM266_133_6 : M266 133 6 = M264 133 6 := f265 133 6 (fun q => by have := q.2; omega)
              have tM266_133_1 : M266 133 1 = M264 133 1 := f265 133 1 (fun q => by have := q.2; omega)
              have tM266_133_2 : M266 133 2 = M264 133 2 := f265 133 2 (fun q => by have := q.2; omega)
              have tM266_133_4 : M266 133 4 = M264 133 4 := f265 133 4 (fun q => by have := q.2; omega)
              have hq9 := wl_wr f265 (by omega)
              have hL := hq9.2 hL
              have cM266 := hq9.1
              clear hq9
              have hF := hF.wr f265 (by decide) (by decide)
              have hW : WFk M266 := hW.site f265 (by decide)
              refine z_aload_n F dX12_readThing_179 rfl (q := 6) rfl ?_
              refine rf_X12_13 F gs_131 rfl dX12_readThing_180 ?_
              refine z_bipush F dX12_readThing_183 (by decide +kernel) ?_
              refine z_iload F dX12_readThing_185 (q := 0) rfl ?_
              refine z_iadd F dX12_readThing_187 ?_
              refine z_iload F dX12_readThing_188 (q := 1) rfl ?_
              refine z_if_eq (tgt := 197) F dX12_readThing_190 (by decide +kernel) (by omega) (fun c267 => ?_) (fun c267 => ?_)
              · refine z_iconst F dX12_readThing_197 ?_
                refine z_iast F hI gs_133 (by omega) (by omega) (by decide) (bd_133.trans (kn_any (by omega) (by omega))) dX12_readThing_198 (by omega) (by omega) (fun M269 hI sf268 f268 => ?_)
                have tM269_131_7 : M269 131 7 = M266 131 7 := f268 131 7 (fun q => absurd q.1 (by decide))
                have tM269_131_8 : M269 131 8 = M266 131 8 := f268 131 8 (fun q => absurd q.1 (by decide))
                have tM269_131_9 : M269 131 9 = M266 131 9 := f268 131 9 (fun q => absurd q.1 (by decide))
                have tM269_131_10 : M269 131 10 = M266 131 10 := f268 131 10 (fun q => absurd q.1 (by decide))
                have tM269_131_12 : M269 131 12 = M266 131 12 := f268 131 12 (fun q => absurd q.1 (by decide))
                have tM269_131_16 : M269 131 16 = M266 131 16 := f268 131 16 (fun q => absurd q.1 (by decide))
                have tM269_133_6 : M269 133 6 = M266 133 6 := f268 133 6 (fun q => by have := q.2; omega)
                have tM269_133_1 : M269 133 1 = M266 133 1 := f268 133 1 (fun q => by have := q.2; omega)
                have tM269_133_2 : M269 133 2 = M266 133 2 := f268 133 2 (fun q => by have := q.2; omega)
                have tM269_133_4 : M269 133 4 = M266 133 4 := f268 133 4 (fun q => by have := q.2; omega)
                have hq9 := wl_wr f268 (by omega)
                have hL := hq9.2 hL
                have cM269 := hq9.1
                clear hq9
                have hF := hF.wr f268 (by decide) (by decide)
                have hW : WFk M269 := hW.site f268 (by decide)
                refine z_aload_n F dX12_readThing_199 rfl (q := 6) rfl ?_
                refine rf_X12_13 F gs_131 rfl dX12_readThing_200 ?_
                refine z_iconst F dX12_readThing_203 ?_
                refine z_dup2 F dX12_readThing_204 rfl rfl ?_
                refine z_iald F hI gs_133 (by omega) (by omega) (by decide) (show Bd 133 2 = (0, 8) from rfl) dX12_readThing_205 (fun v270 (ev270 : v270 = M269 133 2) av270 bv270 => ?_)
                have q271 : v257 = M260 133 2 := ev257.trans (f259 133 2 (fun q => by omega)).symm
                have q272 : v257 = M262 133 2 := q271.trans (f261 133 2 (fun q => by omega)).symm
                have q273 : v257 = M264 133 2 := q272.trans (f263 133 2 (fun q => by omega)).symm
                have q274 : v257 = M266 133 2 := q273.trans (f265 133 2 (fun q => by omega)).symm
                have q275 : v257 = M269 133 2 := q274.trans (f268 133 2 (fun q => by omega)).symm
                have zv270 : v257 = v270 := q275.trans ev270.symm
                subst zv270
                refine z_iconst F dX12_readThing_206 ?_
                refine z_iadd F dX12_readThing_207 ?_
                refine z_nm (fun v277 ev277 => ?_)
                refine z_iast F hI gs_133 (by omega) (by omega) (by decide) (show Bd 133 2 = (0, 8) from rfl) dX12_readThing_208 (by omega) (by omega) (fun M278 hI sf276 f276 => ?_)
                have tM278_131_7 : M278 131 7 = M269 131 7 := f276 131 7 (fun q => absurd q.1 (by decide))
                have tM278_131_8 : M278 131 8 = M269 131 8 := f276 131 8 (fun q => absurd q.1 (by decide))
                have tM278_131_9 : M278 131 9 = M269 131 9 := f276 131 9 (fun q => absurd q.1 (by decide))
                have tM278_131_10 : M278 131 10 = M269 131 10 := f276 131 10 (fun q => absurd q.1 (by decide))
                have tM278_131_12 : M278 131 12 = M269 131 12 := f276 131 12 (fun q => absurd q.1 (by decide))
                have tM278_131_16 : M278 131 16 = M269 131 16 := f276 131 16 (fun q => absurd q.1 (by decide))
                have tM278_133_6 : M278 133 6 = M269 133 6 := f276 133 6 (fun q => absurd q.2 (by decide))
                have tM278_133_1 : M278 133 1 = M269 133 1 := f276 133 1 (fun q => absurd q.2 (by decide))
                have tM278_133_4 : M278 133 4 = M269 133 4 := f276 133 4 (fun q => absurd q.2 (by decide))
                have hq9 := wl_wr f276 (by omega)
                have hL := hq9.2 hL
                have cM278 := hq9.1
                clear hq9
                have hF := hF.wr f276 (by decide) (by decide)
                have hW : WFk M278 := hW.site f276 (by decide)
                have sf276 : M278 133 2 = v277 := sf276
                exact hret _ 209 _ ⟨hI, hW⟩ ⟨hF, ⟨hL, by omega⟩⟩ dX12_readThing_209
              · refine z_iconst F dX12_readThing_193 ?_
                refine z_goto (tgt := 198) F dX12_readThing_194 (by decide +kernel) ?_
                refine z_iast F hI gs_133 (by omega) (by omega) (by decide) (bd_133.trans (kn_any (by omega) (by omega))) dX12_readThing_198 (by omega) (by omega) (fun M280 hI sf279 f279 => ?_)
                have tM280_131_7 : M280 131 7 = M266 131 7 := f279 131 7 (fun q => absurd q.1 (by decide))
                have tM280_131_8 : M280 131 8 = M266 131 8 := f279 131 8 (fun q => absurd q.1 (by decide))
                have tM280_131_9 : M280 131 9 = M266 131 9 := f279 131 9 (fun q => absurd q.1 (by decide))
                have tM280_131_10 : M280 131 10 = M266 131 10 := f279 131 10 (fun q => absurd q.1 (by decide))
                have tM280_131_12 : M280 131 12 = M266 131 12 := f279 131 12 (fun q => absurd q.1 (by decide))
                have tM280_131_16 : M280 131 16 = M266 131 16 := f279 131 16 (fun q => absurd q.1 (by decide))
                have tM280_133_6 : M280 133 6 = M266 133 6 := f279 133 6 (fun q => by have := q.2; omega)
                have tM280_133_1 : M280 133 1 = M266 133 1 := f279 133 1 (fun q => by have := q.2; omega)
                have tM280_133_2 : M280 133 2 = M266 133 2 := f279 133 2 (fun q => by have := q.2; omega)
                have tM280_133_4 : M280 133 4 = M266 133 4 := f279 133 4 (fun q => by have := q.2; omega)
                have hq9 := wl_wr f279 (by omega)
                have hL := hq9.2 hL
                have cM280 := hq9.1
                clear hq9
                have hF := hF.wr f279 (by decide) (by decide)
                have hW : WFk M280 := hW.site f279 (by decide)
                refine z_aload_n F dX12_readThing_199 rfl (q := 6) rfl ?_
                refine rf_X12_13 F gs_131 rfl dX12_readThing_200 ?_
                refine z_iconst F dX12_readThing_203 ?_
                refine z_dup2 F dX12_readThing_204 rfl rfl ?_
                refine z_iald F hI gs_133 (by omega) (by omega) (by decide) (show Bd 133 2 = (0, 8) from rfl) dX12_readThing_205 (fun v281 (ev281 : v281 = M280 133 2) av281 bv281 => ?_)
                have q282 : v257 = M260 133 2 := ev257.trans (f259 133 2 (fun q => by omega)).symm
                have q283 : v257 = M262 133 2 := q282.trans (f261 133 2 (fun q => by omega)).symm
                have q284 : v257 = M264 133 2 := q283.trans (f263 133 2 (fun q => by omega)).symm
                have q285 : v257 = M266 133 2 := q284.trans (f265 133 2 (fun q => by omega)).symm
                have q286 : v257 = M280 133 2 := q285.trans (f279 133 2 (fun q => by omega)).symm
                have zv281 : v257 = v281 := q286.trans ev281.symm
                subst zv281
                refine z_iconst F dX12_readThing_206 ?_
                refine z_iadd F dX12_readThing_207 ?_
                refine z_nm (fun v288 ev288 => ?_)
                refine z_iast F hI gs_133 (by omega) (by omega) (by decide) (show Bd 133 2 = (0, 8) from rfl) dX12_readThing_208 (by omega) (by omega) (fun M289 hI sf287 f287 => ?_)
                have tM289_131_7 : M289 131 7 = M280 131 7 := f287 131 7 (fun q => absurd q.1 (by decide))
                have tM289_131_8 : M289 131 8 = M280 131 8 := f287 131 8 (fun q => absurd q.1 (by decide))
                have tM289_131_9 : M289 131 9 = M280 131 9 := f287 131 9 (fun q => absurd q.1 (by decide))
                have tM289_131_10 : M289 131 10 = M280 131 10 := f287 131 10 (fun q => absurd q.1 (by decide))
                have tM289_131_12 : M289 131 12 = M280 131 12 := f287 131 12 (fun q => absurd q.1 (by decide))
                have tM289_131_16 : M289 131 16 = M280 131 16 := f287 131 16 (fun q => absurd q.1 (by decide))
                have tM289_133_6 : M289 133 6 = M280 133 6 := f287 133 6 (fun q => absurd q.2 (by decide))
                have tM289_133_1 : M289 133 1 = M280 133 1 := f287 133 1 (fun q => absurd q.2 (by decide))
                have tM289_133_4 : M289 133 4 = M280 133 4 := f287 133 4 (fun q => absurd q.2 (by decide))
                have hq9 := wl_wr f287 (by omega)
                have hL := hq9.2 hL
                have cM289 := hq9.1
                clear hq9
                have hF := hF.wr f287 (by decide) (by decide)
                have hW : WFk M289 := hW.site f287 (by decide)
                have sf287 : M289 133 2 = v288 := sf287
                exact hret _ 209 _ ⟨hI, hW⟩ ⟨hF, ⟨hL, by omega⟩⟩ dX12_readThing_209
            · exact hret _ 125 _ ⟨hI, hW⟩ ⟨hF, ⟨hL, by omega⟩⟩ dX12_readThing_125
        · refine z_aload_n F dX12_readThing_76 rfl (q := 2) rfl ?_
          refine z_iconst F dX12_readThing_77 ?_
          refine z_bipush F dX12_readThing_78 (by decide +kernel) ?_
          refine zv_i (rest := []) F (kp_X12_number l M204 ⟨hI, hW⟩ 0 (by omega) (by omega) 9 (by omega) (by omega) (by omega)) cs_X12_199 (T := TX12) (N := 44) (ci := 12) rfl gs_131 (by decide) (by decide) rfl rfl rfl (Nat.le_of_ble_eq_true rfl) dX12_readThing_80 (fun v290 M291 rv290 hI p292 => ?_)
          obtain ⟨hI, hW⟩ := hI
          obtain ⟨⟨av290, bv290⟩, fp292, xp292⟩ := p292
          have hF := hF.call fp292 (by decide)
          have tM291_133_6 : M291 133 6 = M204 133 6 := fp292.at (by decide)
          have tM291_133_1 : M291 133 1 = M204 133 1 := fp292.at (by decide)
          have tM291_133_2 : M291 133 2 = M204 133 2 := fp292.at (by decide)
          have tM291_133_4 : M291 133 4 = M204 133 4 := fp292.at (by decide)
          have hq9 := wl_fr fp292 (by decide)
          have hL := hq9.2 hL
          have cM291 := hq9.1
          clear hq9
          have hkv290 : 0 ≤ v290 ∧ v290 ≤ 9 := by omega
          refine z_goto (tgt := 87) F dX12_readThing_83 (by decide +kernel) ?_
          refine z_istore_n F dX12_readThing_87 rfl (by decide) (ls' := [(3, ii v290), (2, ii v200), (1, ii v195), (0, .ref (ad 131))]) rfl ?_
          refine z_aload_n F dX12_readThing_88 rfl (q := 3) rfl ?_
          refine z_ldcS (j := 63) F dX12_readThing_89 rfl rfl rfl ?_
          refine z_eq (st' := [.ref (ad 1063), .ref (ad 131)]) rfl rfl rfl ?_
          refine zv_i (rest := []) F (kp_X12_took_131_1063 l M291 ⟨hI, hW⟩ (by omega)) cs_X12_130 (T := TX12) (N := 44) (ci := 12) rfl gs_131 (by decide) (by decide) rfl rfl rfl (Nat.le_of_ble_eq_true rfl) dX12_readThing_91 (fun v293 M294 rv293 hI p295 => ?_)
          obtain ⟨hI, hW⟩ := hI
          obtain ⟨⟨av293, bv293⟩, fp295, xp295⟩ := p295
          have hF := hF.call fp295 (by decide)
          have tM294_133_6 : M294 133 6 = M291 133 6 := fp295.at (by decide)
          have tM294_133_1 : M294 133 1 = M291 133 1 := fp295.at (by decide)
          have tM294_133_2 : M294 133 2 = M291 133 2 := fp295.at (by decide)
          have tM294_133_4 : M294 133 4 = M291 133 4 := fp295.at (by decide)
          have hq9 := wl_fr fp295 (by decide)
          have hL := hq9.2 hL
          have cM294 := hq9.1
          clear hq9
          refine z_if_eq (tgt := 107) F dX12_readThing_94 (by decide +kernel) (by omega) (fun c296 => ?_) (fun c296 => ?_)
          · refine z_iconst F dX12_readThing_107 ?_
            refine z_istore F dX12_readThing_108 (by decide) (ls' := [(4, ii 1), (3, ii v290), (2, ii v200), (1, ii v195), (0, .ref (ad 131))]) rfl ?_
            refine z_aload_n F dX12_readThing_110 rfl (q := 4) rfl ?_
            refine z_ldcS (j := 64) F dX12_readThing_111 rfl rfl rfl ?_
            refine z_eq (st' := [.ref (ad 1064), .ref (ad 131)]) rfl rfl rfl ?_
            refine zv_i (rest := []) F (kp_X12_took_131_1064 l M294 ⟨hI, hW⟩ (by omega)) cs_X12_130 (T := TX12) (N := 44) (ci := 12) rfl gs_131 (by decide) (by decide) rfl rfl rfl (Nat.le_of_ble_eq_true rfl) dX12_readThing_113 (fun v297 M298 rv297 hI p299 => ?_)
            obtain ⟨hI, hW⟩ := hI
            obtain ⟨⟨av297, bv297⟩, fp299, xp299⟩ := p299
            have hF := hF.call fp299 (by decide)
            have tM298_133_6 : M298 133 6 = M294 133 6 := fp299.at (by decide)
            have tM298_133_1 : M298 133 1 = M294 133 1 := fp299.at (by decide)
            have tM298_133_2 : M298 133 2 = M294 133 2 := fp299.at (by decide)
            have tM298_133_4 : M298 133 4 = M294 133 4 := fp299.at (by decide)
            have hq9 := wl_fr fp299 (by decide)
            have hL := hq9.2 hL
            have cM298 := hq9.1
            clear hq9
            refine z_istore F dX12_readThing_116 (by decide) (ls' := [(5, ii v297), (4, ii 1), (3, ii v290), (2, ii v200), (1, ii v195), (0, .ref (ad 131))]) rfl ?_
            refine z_aload_n F dX12_readThing_118 rfl (q := 5) rfl ?_
            refine gf_X12_108 F hI gs_131 rfl bd_131_12 dX12_readThing_119 (fun v300 ev300 av300 bv300 => ?_)
            refine z_if_eq (tgt := 126) F dX12_readThing_122 (by decide +kernel) (by omega) (fun c301 => ?_) (fun c301 => ?_)
            · refine z_aload_n F dX12_readThing_126 rfl (q := 5) rfl ?_
              refine rf_X12_13 F gs_131 rfl dX12_readThing_127 ?_
              refine z_iconst F dX12_readThing_130 ?_
              refine z_iald F hI gs_133 (by omega) (by omega) (by decide) (show Bd 133 2 = (0, 8) from rfl) dX12_readThing_131 (fun v302 (ev302 : v302 = M298 133 2) av302 bv302 => ?_)
              have k303 : 0 ≤ v302 ∧ v302 ≤ 7 := by omega
              refine z_istore F dX12_readThing_132 (by decide) (ls' := [(6, ii v302), (5, ii v297), (4, ii 1), (3, ii v290), (2, ii v200), (1, ii v195), (0, .ref (ad 131))]) rfl ?_
              refine z_aload_n F dX12_readThing_134 rfl (q := 6) rfl ?_
              refine rf_X12_13 F gs_131 rfl dX12_readThing_135 ?_
              refine z_bipush F dX12_readThing_138 (by decide +kernel) ?_
              refine z_iload F dX12_readThing_140 (q := 0) rfl ?_
              refine z_iadd F dX12_readThing_142 ?_
              refine z_iload_n F dX12_readThing_143 rfl (q := 5) rfl ?_
              refine z_iast F hI gs_133 (by omega) (by omega) (by decide) (bd_133.trans (kn_at (by omega) (by omega))) dX12_readThing_144 (by omega) (by omega) (fun M305 hI sf304 f304 => ?_)
              have tM305_131_7 : M305 131 7 = M298 131 7 := f304 131 7 (fun q => absurd q.1 (by decide))
              have tM305_131_8 : M305 131 8 = M298 131 8 := f304 131 8 (fun q => absurd q.1 (by decide))
              have tM305_131_9 : M305 131 9 = M298 131 9 := f304 131 9 (fun q => absurd q.1 (by decide))
              have tM305_131_10 : M305 131 10 = M298 131 10 := f304 131 10 (fun q => absurd q.1 (by decide))
              have tM305_131_12 : M305 131 12 = M298 131 12 := f304 131 12 (fun q => absurd q.1 (by decide))
              have tM305_131_16 : M305 131 16 = M298 131 16 := f304 131 16 (fun q => absurd q.1 (by decide))
              have tM305_133_6 : M305 133 6 = M298 133 6 := f304 133 6 (fun q => by have := q.2; omega)
              have tM305_133_1 : M305 133 1 = M298 133 1 := f304 133 1 (fun q => by have := q.2; omega)
              have tM305_133_2 : M305 133 2 = M298 133 2 := f304 133 2 (fun q => by have := q.2; omega)
              have tM305_133_4 : M305 133 4 = M298 133 4 := f304 133 4 (fun q => by have := q.2; omega)
              have hq9 := wl_wr f304 (by omega)
              have hL := hq9.2 hL
              have cM305 := hq9.1
              clear hq9
              have hF := hF.wr f304 (by decide) (by decide)
              have hW : WFk M305 := hW.site f304 (by decide)
              refine z_aload_n F dX12_readThing_145 rfl (q := 6) rfl ?_
              refine rf_X12_13 F gs_131 rfl dX12_readThing_146 ?_
              refine z_bipush F dX12_readThing_149 (by decide +kernel) ?_
              refine z_iload F dX12_readThing_151 (q := 0) rfl ?_
              refine z_iadd F dX12_readThing_153 ?_
              refine z_iload_n F dX12_readThing_154 rfl (q := 4) rfl ?_
              refine z_iast F hI gs_133 (by omega) (by omega) (by decide) (bd_133.trans (kn_any (by omega) (by omega))) dX12_readThing_155 (by omega) (by omega) (fun M307 hI sf306 f306 => ?_)
              have tM307_131_7 : M307 131 7 = M305 131 7 := f306 131 7 (fun q => absurd q.1 (by decide))
              have tM307_131_8 : M307 131 8 = M305 131 8 := f306 131 8 (fun q => absurd q.1 (by decide))
              have tM307_131_9 : M307 131 9 = M305 131 9 := f306 131 9 (fun q => absurd q.1 (by decide))
              have tM307_131_10 : M307 131 10 = M305 131 10 := f306 131 10 (fun q => absurd q.1 (by decide))
              have tM307_131_12 : M307 131 12 = M305 131 12 := f306 131 12 (fun q => absurd q.1 (by decide))
              have tM307_131_16 : M307 131 16 = M305 131 16 := f306 131 16 (fun q => absurd q.1 (by decide))
              have tM307_133_6 : M307 133 6 = M305 133 6 := f306 133 6 (fun q => by have := q.2; omega)
              have tM307_133_1 : M307 133 1 = M305 133 1 := f306 133 1 (fun q => by have := q.2; omega)
              have tM307_133_2 : M307 133 2 = M305 133 2 := f306 133 2 (fun q => by have := q.2; omega)
              have tM307_133_4 : M307 133 4 = M305 133 4 := f306 133 4 (fun q => by have := q.2; omega)
              have hq9 := wl_wr f306 (by omega)
              have hL := hq9.2 hL
              have cM307 := hq9.1
              clear hq9
              have hF := hF.wr f306 (by decide) (by decide)
              have hW : WFk M307 := hW.site f306 (by decide)
              refine z_aload_n F dX12_readThing_156 rfl (q := 6) rfl ?_
              refine rf_X12_13 F gs_131 rfl dX12_readThing_157 ?_
              refine z_bipush F dX12_readThing_160 (by decide +kernel) ?_
              refine z_iload F dX12_readThing_162 (q := 0) rfl ?_
              refine z_iadd F dX12_readThing_164 ?_
              refine z_iload_n F dX12_readThing_165 rfl (q := 3) rfl ?_
              refine z_iast F hI gs_133 (by omega) (by omega) (by decide) (bd_133.trans (kn_any (by omega) (by omega))) dX12_readThing_166 (by omega) (by omega) (fun M309 hI sf308 f308 => ?_)
              have tM309_131_7 : M309 131 7 = M307 131 7 := f308 131 7 (fun q => absurd q.1 (by decide))
              have tM309_131_8 : M309 131 8 = M307 131 8 := f308 131 8 (fun q => absurd q.1 (by decide))
              have tM309_131_9 : M309 131 9 = M307 131 9 := f308 131 9 (fun q => absurd q.1 (by decide))
              have tM309_131_10 : M309 131 10 = M307 131 10 := f308 131 10 (fun q => absurd q.1 (by decide))
              have tM309_131_12 : M309 131 12 = M307 131 12 := f308 131 12 (fun q => absurd q.1 (by decide))
              have tM309_131_16 : M309 131 16 = M307 131 16 := f308 131 16 (fun q => absurd q.1 (by decide))
              have tM309_133_6 : M309 133 6 = M307 133 6 := f308 133 6 (fun q => by have := q.2; omega)
              have tM309_133_1 : M309 133 1 = M307 133 1 := f308 133 1 (fun q => by have := q.2; omega)
              have tM309_133_2 : M309 133 2 = M307 133 2 := f308 133 2 (fun q => by have := q.2; omega)
              have tM309_133_4 : M309 133 4 = M307 133 4 := f308 133 4 (fun q => by have := q.2; omega)
              have hq9 := wl_wr f308 (by omega)
              have hL := hq9.2 hL
              have cM309 := hq9.1
              clear hq9
              have hF := hF.wr f308 (by decide) (by decide)
              have hW : WFk M309 := hW.site f308 (by decide)
              refine z_aload_n F dX12_readThing_167 rfl (q := 6) rfl ?_
              refine rf_X12_13 F gs_131 rfl dX12_readThing_168 ?_
              refine z_bipush F dX12_readThing_171 (by decide +kernel) ?_
              refine z_iload F dX12_readThing_173 (q := 0) rfl ?_
              refine z_iadd F dX12_readThing_175 ?_
              refine z_iload F dX12_readThing_176 (q := 2) rfl ?_
              refine z_iast F hI gs_133 (by omega) (by omega) (by decide) (bd_133.trans (kn_any (by omega) (by omega))) dX12_readThing_178 (by omega) (by omega) (fun M311 hI sf310 f310 => ?_)
              have tM311_131_7 : M311 131 7 = M309 131 7 := f310 131 7 (fun q => absurd q.1 (by decide))
              have tM311_131_8 : M311 131 8 = M309 131 8 := f310 131 8 (fun q => absurd q.1 (by decide))
              have tM311_131_9 : M311 131 9 = M309 131 9 := f310 131 9 (fun q => absurd q.1 (by decide))
              have tM311_131_10 : M311 131 10 = M309 131 10 := f310 131 10 (fun q => absurd q.1 (by decide))
              have tM311_131_12 : M311 131 12 = M309 131 12 := f310 131 12 (fun q => absurd q.1 (by decide))
              have tM311_131_16 : M311 131 16 = M309 131 16 := f310 131 16 (fun q => absurd q.1 (by decide))
              have tM311_133_6 : M311 133 6 = M309 133 6 := f310 133 6 (fun q => by have := q.2; omega)
              have tM311_133_1 : M311 133 1 = M309 133 1 := f310 133 1 (fun q => by have := q.2; omega)
              have tM311_133_2 : M311 133 2 = M309 133 2 := f310 133 2 (fun q => by have := q.2; omega)
              have tM311_133_4 : M311 133 4 = M309 133 4 := f310 133 4 (fun q => by have := q.2; omega)
              have hq9 := wl_wr f310 (by omega)
              have hL := hq9.2 hL
              have cM311 := hq9.1
              clear hq9
              have hF := hF.wr f310 (by decide) (by decide)
              have hW : WFk M311 := hW.site f310 (by decide)
              refine z_aload_n F dX12_readThing_179 rfl (q := 6) rfl ?_
              refine rf_X12_13 F gs_131 rfl dX12_readThing_180 ?_
              refine z_bipush F dX12_readThing_183 (by decide +kernel) ?_
              refine z_iload F dX12_readThing_185 (q := 0) rfl ?_
              refine z_iadd F dX12_readThing_187 ?_
              refine z_iload F dX12_readThing_188 (q := 1) rfl ?_
              refine z_if_eq (tgt := 197) F dX12_readThing_190 (by decide +kernel) (by omega) (fun c312 => ?_) (fun c312 => ?_)
              · refine z_iconst F dX12_readThing_197 ?_
                refine z_iast F hI gs_133 (by omega) (by omega) (by decide) (bd_133.trans (kn_any (by omega) (by omega))) dX12_readThing_198 (by omega) (by omega) (fun M314 hI sf313 f313 => ?_)
                have tM314_131_7 : M314 131 7 = M311 131 7 := f313 131 7 (fun q => absurd q.1 (by decide))
                have tM314_131_8 : M314 131 8 = M311 131 8 := f313 131 8 (fun q => absurd q.1 (by decide))
                have tM314_131_9 : M314 131 9 = M311 131 9 := f313 131 9 (fun q => absurd q.1 (by decide))
                have tM314_131_10 : M314 131 10 = M311 131 10 := f313 131 10 (fun q => absurd q.1 (by decide))
                have tM314_131_12 : M314 131 12 = M311 131 12 := f313 131 12 (fun q => absurd q.1 (by decide))
                have tM314_131_16 : M314 131 16 = M311 131 16 := f313 131 16 (fun q => absurd q.1 (by decide))
                have tM314_133_6 : M314 133 6 = M311 133 6 := f313 133 6 (fun q => by have := q.2; omega)
                have tM314_133_1 : M314 133 1 = M311 133 1 := f313 133 1 (fun q => by have := q.2; omega)
                have tM314_133_2 : M314 133 2 = M311 133 2 := f313 133 2 (fun q => by have := q.2; omega)
                have tM314_133_4 : M314 133 4 = M311 133 4 := f313 133 4 (fun q => by have := q.2; omega)
                have hq9 := wl_wr f313 (by omega)
                have hL := hq9.2 hL
                have cM314 := hq9.1
                clear hq9
                have hF := hF.wr f313 (by decide) (by decide)
                have hW : WFk M314 := hW.site f313 (by decide)
                refine z_aload_n F dX12_readThing_199 rfl (q := 6) rfl ?_
                refine rf_X12_13 F gs_131 rfl dX12_readThing_200 ?_
                refine z_iconst F dX12_readThing_203 ?_
                refine z_dup2 F dX12_readThing_204 rfl rfl ?_
                refine z_iald F hI gs_133 (by omega) (by omega) (by decide) (show Bd 133 2 = (0, 8) from rfl) dX12_readThing_205 (fun v315 (ev315 : v315 = M314 133 2) av315 bv315 => ?_)
                have q316 : v302 = M305 133 2 := ev302.trans (f304 133 2 (fun q => by omega)).symm
                have q317 : v302 = M307 133 2 := q316.trans (f306 133 2 (fun q => by omega)).symm
                have q318 : v302 = M309 133 2 := q317.trans (f308 133 2 (fun q => by omega)).symm
                have q319 : v302 = M311 133 2 := q318.trans (f310 133 2 (fun q => by omega)).symm
                have q320 : v302 = M314 133 2 := q319.trans (f313 133 2 (fun q => by omega)).symm
                have zv315 : v302 = v315 := q320.trans ev315.symm
                subst zv315
                refine z_iconst F dX12_readThing_206 ?_
                refine z_iadd F dX12_readThing_207 ?_
                refine z_nm (fun v322 ev322 => ?_)
                refine z_iast F hI gs_133 (by omega) (by omega) (by decide) (show Bd 133 2 = (0, 8) from rfl) dX12_readThing_208 (by omega) (by omega) (fun M323 hI sf321 f321 => ?_)
                have tM323_131_7 : M323 131 7 = M314 131 7 := f321 131 7 (fun q => absurd q.1 (by decide))
                have tM323_131_8 : M323 131 8 = M314 131 8 := f321 131 8 (fun q => absurd q.1 (by decide))
                have tM323_131_9 : M323 131 9 = M314 131 9 := f321 131 9 (fun q => absurd q.1 (by decide))
                have tM323_131_10 : M323 131 10 = M314 131 10 := f321 131 10 (fun q => absurd q.1 (by decide))
                have tM323_131_12 : M323 131 12 = M314 131 12 := f321 131 12 (fun q => absurd q.1 (by decide))
                have tM323_131_16 : M323 131 16 = M314 131 16 := f321 131 16 (fun q => absurd q.1 (by decide))
                have tM323_133_6 : M323 133 6 = M314 133 6 := f321 133 6 (fun q => absurd q.2 (by decide))
                have tM323_133_1 : M323 133 1 = M314 133 1 := f321 133 1 (fun q => absurd q.2 (by decide))
                have tM323_133_4 : M323 133 4 = M314 133 4 := f321 133 4 (fun q => absurd q.2 (by decide))
                have hq9 := wl_wr f321 (by omega)
                have hL := hq9.2 hL
                have cM323 := hq9.1
                clear hq9
                have hF := hF.wr f321 (by decide) (by decide)
                have hW : WFk M323 := hW.site f321 (by decide)
                have sf321 : M323 133 2 = v322 := sf321
                exact hret _ 209 _ ⟨hI, hW⟩ ⟨hF, ⟨hL, by omega⟩⟩ dX12_readThing_209
              · refine z_iconst F dX12_readThing_193 ?_
                refine z_goto (tgt := 198) F dX12_readThing_194 (by decide +kernel) ?_
                refine z_iast F hI gs_133 (by omega) (by omega) (by decide) (bd_133.trans (kn_any (by omega) (by omega))) dX12_readThing_198 (by omega) (by omega) (fun M325 hI sf324 f324 => ?_)
                have tM325_131_7 : M325 131 7 = M311 131 7 := f324 131 7 (fun q => absurd q.1 (by decide))
                have tM325_131_8 : M325 131 8 = M311 131 8 := f324 131 8 (fun q => absurd q.1 (by decide))
                have tM325_131_9 : M325 131 9 = M311 131 9 := f324 131 9 (fun q => absurd q.1 (by decide))
                have tM325_131_10 : M325 131 10 = M311 131 10 := f324 131 10 (fun q => absurd q.1 (by decide))
                have tM325_131_12 : M325 131 12 = M311 131 12 := f324 131 12 (fun q => absurd q.1 (by decide))
                have tM325_131_16 : M325 131 16 = M311 131 16 := f324 131 16 (fun q => absurd q.1 (by decide))
                have tM325_133_6 : M325 133 6 = M311 133 6 := f324 133 6 (fun q => by have := q.2; omega)
                have tM325_133_1 : M325 133 1 = M311 133 1 := f324 133 1 (fun q => by have := q.2; omega)
                have tM325_133_2 : M325 133 2 = M311 133 2 := f324 133 2 (fun q => by have := q.2; omega)
                have tM325_133_4 : M325 133 4 = M311 133 4 := f324 133 4 (fun q => by have := q.2; omega)
                have hq9 := wl_wr f324 (by omega)
                have hL := hq9.2 hL
                have cM325 := hq9.1
                clear hq9
                have hF := hF.wr f324 (by decide) (by decide)
                have hW : WFk M325 := hW.site f324 (by decide)
                refine z_aload_n F dX12_readThing_199 rfl (q := 6) rfl ?_
                refine rf_X12_13 F gs_131 rfl dX12_readThing_200 ?_
                refine z_iconst F dX12_readThing_203 ?_
                refine z_dup2 F dX12_readThing_204 rfl rfl ?_
                refine z_iald F hI gs_133 (by omega) (by omega) (by decide) (show Bd 133 2 = (0, 8) from rfl) dX12_readThing_205 (fun v326 (ev326 : v326 = M325 133 2) av326 bv326 => ?_)
                have q327 : v302 = M305 133 2 := ev302.trans (f304 133 2 (fun q => by omega)).symm
                have q328 : v302 = M307 133 2 := q327.trans (f306 133 2 (fun q => by omega)).symm
                have q329 : v302 = M309 133 2 := q328.trans (f308 133 2 (fun q => by omega)).symm
                have q330 : v302 = M311 133 2 := q329.trans (f310 133 2 (fun q => by omega)).symm
                have q331 : v302 = M325 133 2 := q330.trans (f324 133 2 (fun q => by omega)).symm
                have zv326 : v302 = v326 := q331.trans ev326.symm
                subst zv326
                refine z_iconst F dX12_readThing_206 ?_
                refine z_iadd F dX12_readThing_207 ?_
                refine z_nm (fun v333 ev333 => ?_)
                refine z_iast F hI gs_133 (by omega) (by omega) (by decide) (show Bd 133 2 = (0, 8) from rfl) dX12_readThing_208 (by omega) (by omega) (fun M334 hI sf332 f332 => ?_)
                have tM334_131_7 : M334 131 7 = M325 131 7 := f332 131 7 (fun q => absurd q.1 (by decide))
                have tM334_131_8 : M334 131 8 = M325 131 8 := f332 131 8 (fun q => absurd q.1 (by decide))
                have tM334_131_9 : M334 131 9 = M325 131 9 := f332 131 9 (fun q => absurd q.1 (by decide))
                have tM334_131_10 : M334 131 10 = M325 131 10 := f332 131 10 (fun q => absurd q.1 (by decide))
                have tM334_131_12 : M334 131 12 = M325 131 12 := f332 131 12 (fun q => absurd q.1 (by decide))
                have tM334_131_16 : M334 131 16 = M325 131 16 := f332 131 16 (fun q => absurd q.1 (by decide))
                have tM334_133_6 : M334 133 6 = M325 133 6 := f332 133 6 (fun q => absurd q.2 (by decide))
                have tM334_133_1 : M334 133 1 = M325 133 1 := f332 133 1 (fun q => absurd q.2 (by decide))
                have tM334_133_4 : M334 133 4 = M325 133 4 := f332 133 4 (fun q => absurd q.2 (by decide))
                have hq9 := wl_wr f332 (by omega)
                have hL := hq9.2 hL
                have cM334 := hq9.1
                clear hq9
                have hF := hF.wr f332 (by decide) (by decide)
                have hW : WFk M334 := hW.site f332 (by decide)
                have sf332 : M334 133 2 = v333 := sf332
                exact hret _ 209 _ ⟨hI, hW⟩ ⟨hF, ⟨hL, by omega⟩⟩ dX12_readThing_209
            · exact hret _ 125 _ ⟨hI, hW⟩ ⟨hF, ⟨hL, by omega⟩⟩ dX12_readThing_125
          · refine z_aload_n F dX12_readThing_97 rfl (q := 3) rfl ?_
            refine z_iconst F dX12_readThing_98 ?_
            refine z_bipush F dX12_readThing_99 (by decide +kernel) ?_
            refine zv_i (rest := []) F (kp_X12_number l M294 ⟨hI, hW⟩ 1 (by omega) (by omega) 9 (by omega) (by omega) (by omega)) cs_X12_199 (T := TX12) (N := 44) (ci := 12) rfl gs_131 (by decide) (by decide) rfl rfl rfl (Nat.le_of_ble_eq_true rfl) dX12_readThing_101 (fun v335 M336 rv335 hI p337 => ?_)
            obtain ⟨hI, hW⟩ := hI
            obtain ⟨⟨av335, bv335⟩, fp337, xp337⟩ := p337
            have hF := hF.call fp337 (by decide)
            have tM336_133_6 : M336 133 6 = M294 133 6 := fp337.at (by decide)
            have tM336_133_1 : M336 133 1 = M294 133 1 := fp337.at (by decide)
            have tM336_133_2 : M336 133 2 = M294 133 2 := fp337.at (by decide)
            have tM336_133_4 : M336 133 4 = M294 133 4 := fp337.at (by decide)
            have hq9 := wl_fr fp337 (by decide)
            have hL := hq9.2 hL
            have cM336 := hq9.1
            clear hq9
            have hkv335 : 1 ≤ v335 ∧ v335 ≤ 9 := by omega
            refine z_goto (tgt := 108) F dX12_readThing_104 (by decide +kernel) ?_
            refine z_istore F dX12_readThing_108 (by decide) (ls' := [(4, ii v335), (3, ii v290), (2, ii v200), (1, ii v195), (0, .ref (ad 131))]) rfl ?_
            refine z_aload_n F dX12_readThing_110 rfl (q := 4) rfl ?_
            refine z_ldcS (j := 64) F dX12_readThing_111 rfl rfl rfl ?_
            refine z_eq (st' := [.ref (ad 1064), .ref (ad 131)]) rfl rfl rfl ?_
            refine zv_i (rest := []) F (kp_X12_took_131_1064 l M336 ⟨hI, hW⟩ (by omega)) cs_X12_130 (T := TX12) (N := 44) (ci := 12) rfl gs_131 (by decide) (by decide) rfl rfl rfl (Nat.le_of_ble_eq_true rfl) dX12_readThing_113 (fun v338 M339 rv338 hI p340 => ?_)
            obtain ⟨hI, hW⟩ := hI
            obtain ⟨⟨av338, bv338⟩, fp340, xp340⟩ := p340
            have hF := hF.call fp340 (by decide)
            have tM339_133_6 : M339 133 6 = M336 133 6 := fp340.at (by decide)
            have tM339_133_1 : M339 133 1 = M336 133 1 := fp340.at (by decide)
            have tM339_133_2 : M339 133 2 = M336 133 2 := fp340.at (by decide)
            have tM339_133_4 : M339 133 4 = M336 133 4 := fp340.at (by decide)
            have hq9 := wl_fr fp340 (by decide)
            have hL := hq9.2 hL
            have cM339 := hq9.1
            clear hq9
            refine z_istore F dX12_readThing_116 (by decide) (ls' := [(5, ii v338), (4, ii v335), (3, ii v290), (2, ii v200), (1, ii v195), (0, .ref (ad 131))]) rfl ?_
            refine z_aload_n F dX12_readThing_118 rfl (q := 5) rfl ?_
            refine gf_X12_108 F hI gs_131 rfl bd_131_12 dX12_readThing_119 (fun v341 ev341 av341 bv341 => ?_)
            refine z_if_eq (tgt := 126) F dX12_readThing_122 (by decide +kernel) (by omega) (fun c342 => ?_) (fun c342 => ?_)
            · refine z_aload_n F dX12_readThing_126 rfl (q := 5) rfl ?_
              refine rf_X12_13 F gs_131 rfl dX12_readThing_127 ?_
              refine z_iconst F dX12_readThing_130 ?_
              refine z_iald F hI gs_133 (by omega) (by omega) (by decide) (show Bd 133 2 = (0, 8) from rfl) dX12_readThing_131 (fun v343 (ev343 : v343 = M339 133 2) av343 bv343 => ?_)
              have k344 : 0 ≤ v343 ∧ v343 ≤ 7 := by omega
              refine z_istore F dX12_readThing_132 (by decide) (ls' := [(6, ii v343), (5, ii v338), (4, ii v335), (3, ii v290), (2, ii v200), (1, ii v195), (0, .ref (ad 131))]) rfl ?_
              refine z_aload_n F dX12_readThing_134 rfl (q := 6) rfl ?_
              refine rf_X12_13 F gs_131 rfl dX12_readThing_135 ?_
              refine z_bipush F dX12_readThing_138 (by decide +kernel) ?_
              refine z_iload F dX12_readThing_140 (q := 0) rfl ?_
              refine z_iadd F dX12_readThing_142 ?_
              refine z_iload_n F dX12_readThing_143 rfl (q := 5) rfl ?_
              refine z_iast F hI gs_133 (by omega) (by omega) (by decide) (bd_133.trans (kn_at (by omega) (by omega))) dX12_readThing_144 (by omega) (by omega) (fun M346 hI sf345 f345 => ?_)
              have tM346_131_7 : M346 131 7 = M339 131 7 := f345 131 7 (fun q => absurd q.1 (by decide))
              have tM346_131_8 : M346 131 8 = M339 131 8 := f345 131 8 (fun q => absurd q.1 (by decide))
              have tM346_131_9 : M346 131 9 = M339 131 9 := f345 131 9 (fun q => absurd q.1 (by decide))
              have tM346_131_10 : M346 131 10 = M339 131 10 := f345 131 10 (fun q => absurd q.1 (by decide))
              have tM346_131_12 : M346 131 12 = M339 131 12 := f345 131 12 (fun q => absurd q.1 (by decide))
              have tM346_131_16 : M346 131 16 = M339 131 16 := f345 131 16 (fun q => absurd q.1 (by decide))
              have tM346_133_6 : M346 133 6 = M339 133 6 := f345 133 6 (fun q => by have := q.2; omega)
              have tM346_133_1 : M346 133 1 = M339 133 1 := f345 133 1 (fun q => by have := q.2; omega)
              have tM346_133_2 : M346 133 2 = M339 133 2 := f345 133 2 (fun q => by have := q.2; omega)
              have tM346_133_4 : M346 133 4 = M339 133 4 := f345 133 4 (fun q => by have := q.2; omega)
              have hq9 := wl_wr f345 (by omega)
              have hL := hq9.2 hL
              have cM346 := hq9.1
              clear hq9
              have hF := hF.wr f345 (by decide) (by decide)
              have hW : WFk M346 := hW.site f345 (by decide)
              refine z_aload_n F dX12_readThing_145 rfl (q := 6) rfl ?_
              refine rf_X12_13 F gs_131 rfl dX12_readThing_146 ?_
              refine z_bipush F dX12_readThing_149 (by decide +kernel) ?_
              refine z_iload F dX12_readThing_151 (q := 0) rfl ?_
              refine z_iadd F dX12_readThing_153 ?_
              refine z_iload_n F dX12_readThing_154 rfl (q := 4) rfl ?_
              refine z_iast F hI gs_133 (by omega) (by omega) (by decide) (bd_133.trans (kn_any (by omega) (by omega))) dX12_readThing_155 (by omega) (by omega) (fun M348 hI sf347 f347 => ?_)
              have tM348_131_7 : M348 131 7 = M346 131 7 := f347 131 7 (fun q => absurd q.1 (by decide))
              have tM348_131_8 : M348 131 8 = M346 131 8 := f347 131 8 (fun q => absurd q.1 (by decide))
              have tM348_131_9 : M348 131 9 = M346 131 9 := f347 131 9 (fun q => absurd q.1 (by decide))
              have tM348_131_10 : M348 131 10 = M346 131 10 := f347 131 10 (fun q => absurd q.1 (by decide))
              have tM348_131_12 : M348 131 12 = M346 131 12 := f347 131 12 (fun q => absurd q.1 (by decide))
              have tM348_131_16 : M348 131 16 = M346 131 16 := f347 131 16 (fun q => absurd q.1 (by decide))
              have tM348_133_6 : M348 133 6 = M346 133 6 := f347 133 6 (fun q => by have := q.2; omega)
              have tM348_133_1 : M348 133 1 = M346 133 1 := f347 133 1 (fun q => by have := q.2; omega)
              have tM348_133_2 : M348 133 2 = M346 133 2 := f347 133 2 (fun q => by have := q.2; omega)
              have tM348_133_4 : M348 133 4 = M346 133 4 := f347 133 4 (fun q => by have := q.2; omega)
              have hq9 := wl_wr f347 (by omega)
              have hL := hq9.2 hL
              have cM348 := hq9.1
              clear hq9
              have hF := hF.wr f347 (by decide) (by decide)
              have hW : WFk M348 := hW.site f347 (by decide)
              refine z_aload_n F dX12_readThing_156 rfl (q := 6) rfl ?_
              refine rf_X12_13 F gs_131 rfl dX12_readThing_157 ?_
              refine z_bipush F dX12_readThing_160 (by decide +kernel) ?_
              refine z_iload F dX12_readThing_162 (q := 0) rfl ?_
              refine z_iadd F dX12_readThing_164 ?_
              refine z_iload_n F dX12_readThing_165 rfl (q := 3) rfl ?_
              refine z_iast F hI gs_133 (by omega) (by omega) (by decide) (bd_133.trans (kn_any (by omega) (by omega))) dX12_readThing_166 (by omega) (by omega) (fun M350 hI sf349 f349 => ?_)
              have tM350_131_7 : M350 131 7 = M348 131 7 := f349 131 7 (fun q => absurd q.1 (by decide))
              have tM350_131_8 : M350 131 8 = M348 131 8 := f349 131 8 (fun q => absurd q.1 (by decide))
              have tM350_131_9 : M350 131 9 = M348 131 9 := f349 131 9 (fun q => absurd q.1 (by decide))
              have tM350_131_10 : M350 131 10 = M348 131 10 := f349 131 10 (fun q => absurd q.1 (by decide))
              have tM350_131_12 : M350 131 12 = M348 131 12 := f349 131 12 (fun q => absurd q.1 (by decide))
              have tM350_131_16 : M350 131 16 = M348 131 16 := f349 131 16 (fun q => absurd q.1 (by decide))
              have tM350_133_6 : M350 133 6 = M348 133 6 := f349 133 6 (fun q => by have := q.2; omega)
              have tM350_133_1 : M350 133 1 = M348 133 1 := f349 133 1 (fun q => by have := q.2; omega)
              have tM350_133_2 : M350 133 2 = M348 133 2 := f349 133 2 (fun q => by have := q.2; omega)
              have tM350_133_4 : M350 133 4 = M348 133 4 := f349 133 4 (fun q => by have := q.2; omega)
              have hq9 := wl_wr f349 (by omega)
              have hL := hq9.2 hL
              have cM350 := hq9.1
              clear hq9
              have hF := hF.wr f349 (by decide) (by decide)
              have hW : WFk M350 := hW.site f349 (by decide)
              refine z_aload_n F dX12_readThing_167 rfl (q := 6) rfl ?_
              refine rf_X12_13 F gs_131 rfl dX12_readThing_168 ?_
              refine z_bipush F dX12_readThing_171 (by decide +kernel) ?_
              refine z_iload F dX12_readThing_173 (q := 0) rfl ?_
              refine z_iadd F dX12_readThing_175 ?_
              refine z_iload F dX12_readThing_176 (q := 2) rfl ?_
              refine z_iast F hI gs_133 (by omega) (by omega) (by decide) (bd_133.trans (kn_any (by omega) (by omega))) dX12_readThing_178 (by omega) (by omega) (fun M352 hI sf351 f351 => ?_)
              have tM352_131_7 : M352 131 7 = M350 131 7 := f351 131 7 (fun q => absurd q.1 (by decide))
              have tM352_131_8 : M352 131 8 = M350 131 8 := f351 131 8 (fun q => absurd q.1 (by decide))
              have tM352_131_9 : M352 131 9 = M350 131 9 := f351 131 9 (fun q => absurd q.1 (by decide))
              have tM352_131_10 : M352 131 10 = M350 131 10 := f351 131 10 (fun q => absurd q.1 (by decide))
              have tM352_131_12 : M352 131 12 = M350 131 12 := f351 131 12 (fun q => absurd q.1 (by decide))
              have tM352_131_16 : M352 131 16 = M350 131 16 := f351 131 16 (fun q => absurd q.1 (by decide))
              have tM352_133_6 : M352 133 6 = M350 133 6 := f351 133 6 (fun q => by have := q.2; omega)
              have tM352_133_1 : M352 133 1 = M350 133 1 := f351 133 1 (fun q => by have := q.2; omega)
              have tM352_133_2 : M352 133 2 = M350 133 2 := f351 133 2 (fun q => by have := q.2; omega)
              have tM352_133_4 : M352 133 4 = M350 133 4 := f351 133 4 (fun q => by have := q.2; omega)
              have hq9 := wl_wr f351 (by omega)
              have hL := hq9.2 hL
              have cM352 := hq9.1
              clear hq9
              have hF := hF.wr f351 (by decide) (by decide)
              have hW : WFk M352 := hW.site f351 (by decide)
              refine z_aload_n F dX12_readThing_179 rfl (q := 6) rfl ?_
              refine rf_X12_13 F gs_131 rfl dX12_readThing_180 ?_
              refine z_bipush F dX12_readThing_183 (by decide +kernel) ?_
              refine z_iload F dX12_readThing_185 (q := 0) rfl ?_
              refine z_iadd F dX12_readThing_187 ?_
              refine z_iload F dX12_readThing_188 (q := 1) rfl ?_
              refine z_if_eq (tgt := 197) F dX12_readThing_190 (by decide +kernel) (by omega) (fun c353 => ?_) (fun c353 => ?_)
              · refine z_iconst F dX12_readThing_197 ?_
                refine z_iast F hI gs_133 (by omega) (by omega) (by decide) (bd_133.trans (kn_any (by omega) (by omega))) dX12_readThing_198 (by omega) (by omega) (fun M355 hI sf354 f354 => ?_)
                have tM355_131_7 : M355 131 7 = M352 131 7 := f354 131 7 (fun q => absurd q.1 (by decide))
                have tM355_131_8 : M355 131 8 = M352 131 8 := f354 131 8 (fun q => absurd q.1 (by decide))
                have tM355_131_9 : M355 131 9 = M352 131 9 := f354 131 9 (fun q => absurd q.1 (by decide))
                have tM355_131_10 : M355 131 10 = M352 131 10 := f354 131 10 (fun q => absurd q.1 (by decide))
                have tM355_131_12 : M355 131 12 = M352 131 12 := f354 131 12 (fun q => absurd q.1 (by decide))
                have tM355_131_16 : M355 131 16 = M352 131 16 := f354 131 16 (fun q => absurd q.1 (by decide))
                have tM355_133_6 : M355 133 6 = M352 133 6 := f354 133 6 (fun q => by have := q.2; omega)
                have tM355_133_1 : M355 133 1 = M352 133 1 := f354 133 1 (fun q => by have := q.2; omega)
                have tM355_133_2 : M355 133 2 = M352 133 2 := f354 133 2 (fun q => by have := q.2; omega)
                have tM355_133_4 : M355 133 4 = M352 133 4 := f354 133 4 (fun q => by have := q.2; omega)
                have hq9 := wl_wr f354 (by omega)
                have hL := hq9.2 hL
                have cM355 := hq9.1
                clear hq9
                have hF := hF.wr f354 (by decide) (by decide)
                have hW : WFk M355 := hW.site f354 (by decide)
                refine z_aload_n F dX12_readThing_199 rfl (q := 6) rfl ?_
                refine rf_X12_13 F gs_131 rfl dX12_readThing_200 ?_
                refine z_iconst F dX12_readThing_203 ?_
                refine z_dup2 F dX12_readThing_204 rfl rfl ?_
                refine z_iald F hI gs_133 (by omega) (by omega) (by decide) (show Bd 133 2 = (0, 8) from rfl) dX12_readThing_205 (fun v356 (ev356 : v356 = M355 133 2) av356 bv356 => ?_)
                have q357 : v343 = M346 133 2 := ev343.trans (f345 133 2 (fun q => by omega)).symm
                have q358 : v343 = M348 133 2 := q357.trans (f347 133 2 (fun q => by omega)).symm
                have q359 : v343 = M350 133 2 := q358.trans (f349 133 2 (fun q => by omega)).symm
                have q360 : v343 = M352 133 2 := q359.trans (f351 133 2 (fun q => by omega)).symm
                have q361 : v343 = M355 133 2 := q360.trans (f354 133 2 (fun q => by omega)).symm
                have zv356 : v343 = v356 := q361.trans ev356.symm
                subst zv356
                refine z_iconst F dX12_readThing_206 ?_
                refine z_iadd F dX12_readThing_207 ?_
                refine z_nm (fun v363 ev363 => ?_)
                refine z_iast F hI gs_133 (by omega) (by omega) (by decide) (show Bd 133 2 = (0, 8) from rfl) dX12_readThing_208 (by omega) (by omega) (fun M364 hI sf362 f362 => ?_)
                have tM364_131_7 : M364 131 7 = M355 131 7 := f362 131 7 (fun q => absurd q.1 (by decide))
                have tM364_131_8 : M364 131 8 = M355 131 8 := f362 131 8 (fun q => absurd q.1 (by decide))
                have tM364_131_9 : M364 131 9 = M355 131 9 := f362 131 9 (fun q => absurd q.1 (by decide))
                have tM364_131_10 : M364 131 10 = M355 131 10 := f362 131 10 (fun q => absurd q.1 (by decide))
                have tM364_131_12 : M364 131 12 = M355 131 12 := f362 131 12 (fun q => absurd q.1 (by decide))
                have tM364_131_16 : M364 131 16 = M355 131 16 := f362 131 16 (fun q => absurd q.1 (by decide))
                have tM364_133_6 : M364 133 6 = M355 133 6 := f362 133 6 (fun q => absurd q.2 (by decide))
                have tM364_133_1 : M364 133 1 = M355 133 1 := f362 133 1 (fun q => absurd q.2 (by decide))
                have tM364_133_4 : M364 133 4 = M355 133 4 := f362 133 4 (fun q => absurd q.2 (by decide))
                have hq9 := wl_wr f362 (by omega)
                have hL := hq9.2 hL
                have cM364 := hq9.1
                clear hq9
                have hF := hF.wr f362 (by decide) (by decide)
                have hW : WFk M364 := hW.site f362 (by decide)
                have sf362 : M364 133 2 = v363 := sf362
                exact hret _ 209 _ ⟨hI, hW⟩ ⟨hF, ⟨hL, by omega⟩⟩ dX12_readThing_209
              · refine z_iconst F dX12_readThing_193 ?_
                refine z_goto (tgt := 198) F dX12_readThing_194 (by decide +kernel) ?_
                refine z_iast F hI gs_133 (by omega) (by omega) (by decide) (bd_133.trans (kn_any (by omega) (by omega))) dX12_readThing_198 (by omega) (by omega) (fun M366 hI sf365 f365 => ?_)
                have tM366_131_7 : M366 131 7 = M352 131 7 := f365 131 7 (fun q => absurd q.1 (by decide))
                have tM366_131_8 : M366 131 8 = M352 131 8 := f365 131 8 (fun q => absurd q.1 (by decide))
                have tM366_131_9 : M366 131 9 = M352 131 9 := f365 131 9 (fun q => absurd q.1 (by decide))
                have tM366_131_10 : M366 131 10 = M352 131 10 := f365 131 10 (fun q => absurd q.1 (by decide))
                have tM366_131_12 : M366 131 12 = M352 131 12 := f365 131 12 (fun q => absurd q.1 (by decide))
                have tM366_131_16 : M366 131 16 = M352 131 16 := f365 131 16 (fun q => absurd q.1 (by decide))
                have tM366_133_6 : M366 133 6 = M352 133 6 := f365 133 6 (fun q => by have := q.2; omega)
                have tM366_133_1 : M366 133 1 = M352 133 1 := f365 133 1 (fun q => by have := q.2; omega)
                have tM366_133_2 : M366 133 2 = M352 133 2 := f365 133 2 (fun q => by have := q.2; omega)
                have tM366_133_4 : M366 133 4 = M352 133 4 := f365 133 4 (fun q => by have := q.2; omega)
                have hq9 := wl_wr f365 (by omega)
                have hL := hq9.2 hL
                have cM366 := hq9.1
                clear hq9
                have hF := hF.wr f365 (by decide) (by decide)
                have hW : WFk M366 := hW.site f365 (by decide)
                refine z_aload_n F dX12_readThing_199 rfl (q := 6) rfl ?_
                refine rf_X12_13 F gs_131 rfl dX12_readThing_200 ?_
                refine z_iconst F dX12_readThing_203 ?_
                refine z_dup2 F dX12_readThing_204 rfl rfl ?_
                refine z_iald F hI gs_133 (by omega) (by omega) (by decide) (show Bd 133 2 = (0, 8) from rfl) dX12_readThing_205 (fun v367 (ev367 : v367 = M366 133 2) av367 bv367 => ?_)
                have q368 : v343 = M346 133 2 := ev343.trans (f345 133 2 (fun q => by omega)).symm
                have q369 : v343 = M348 133 2 := q368.trans (f347 133 2 (fun q => by omega)).symm
                have q370 : v343 = M350 133 2 := q369.trans (f349 133 2 (fun q => by omega)).symm
                have q371 : v343 = M352 133 2 := q370.trans (f351 133 2 (fun q => by omega)).symm
                have q372 : v343 = M366 133 2 := q371.trans (f365 133 2 (fun q => by omega)).symm
                have zv367 : v343 = v367 := q372.trans ev367.symm
                subst zv367
                refine z_iconst F dX12_readThing_206 ?_
                refine z_iadd F dX12_readThing_207 ?_
                refine z_nm (fun v374 ev374 => ?_)
                refine z_iast F hI gs_133 (by omega) (by omega) (by decide) (show Bd 133 2 = (0, 8) from rfl) dX12_readThing_208 (by omega) (by omega) (fun M375 hI sf373 f373 => ?_)
                have tM375_131_7 : M375 131 7 = M366 131 7 := f373 131 7 (fun q => absurd q.1 (by decide))
                have tM375_131_8 : M375 131 8 = M366 131 8 := f373 131 8 (fun q => absurd q.1 (by decide))
                have tM375_131_9 : M375 131 9 = M366 131 9 := f373 131 9 (fun q => absurd q.1 (by decide))
                have tM375_131_10 : M375 131 10 = M366 131 10 := f373 131 10 (fun q => absurd q.1 (by decide))
                have tM375_131_12 : M375 131 12 = M366 131 12 := f373 131 12 (fun q => absurd q.1 (by decide))
                have tM375_131_16 : M375 131 16 = M366 131 16 := f373 131 16 (fun q => absurd q.1 (by decide))
                have tM375_133_6 : M375 133 6 = M366 133 6 := f373 133 6 (fun q => absurd q.2 (by decide))
                have tM375_133_1 : M375 133 1 = M366 133 1 := f373 133 1 (fun q => absurd q.2 (by decide))
                have tM375_133_4 : M375 133 4 = M366 133 4 := f373 133 4 (fun q => absurd q.2 (by decide))
                have hq9 := wl_wr f373 (by omega)
                have hL := hq9.2 hL
                have cM375 := hq9.1
                clear hq9
                have hF := hF.wr f373 (by decide) (by decide)
                have hW : WFk M375 := hW.site f373 (by decide)
                have sf373 : M375 133 2 = v374 := sf373
                exact hret _ 209 _ ⟨hI, hW⟩ ⟨hF, ⟨hL, by omega⟩⟩ dX12_readThing_209
            · exact hret _ 125 _ ⟨hI, hW⟩ ⟨hF, ⟨hL, by omega⟩⟩ dX12_readThing_125
      · refine z_aload_n F dX12_readThing_34 rfl (q := 0) rfl ?_
        refine z_iconst F dX12_readThing_35 ?_
        refine zv_v (rest := []) F (kp_X12_blames l M2 ⟨hI, hW⟩ 3 (by omega) (by omega)) cs_X12_133 (T := TX12) (N := 44) (ci := 12) rfl gs_131 (by decide) (by decide) rfl rfl rfl (Nat.le_of_ble_eq_true rfl) dX12_readThing_36 (fun M376 hI p377 => ?_)
        obtain ⟨hI, hW⟩ := hI
        obtain ⟨fp377, xp377⟩ := p377
        have hF := hF.call fp377 (by decide)
        have tM376_133_6 : M376 133 6 = M2 133 6 := fp377.at (by decide)
        have tM376_133_1 : M376 133 1 = M2 133 1 := fp377.at (by decide)
        have tM376_133_2 : M376 133 2 = M2 133 2 := fp377.at (by decide)
        have tM376_133_4 : M376 133 4 = M2 133 4 := fp377.at (by decide)
        have hq9 := wl_fr fp377 (by decide)
        have hL := hq9.2 hL
        have cM376 := hq9.1
        clear hq9
        refine z_aload_n F dX12_readThing_39 rfl (q := 0) rfl ?_
        refine z_iconst F dX12_readThing_40 ?_
        refine z_aload_n F dX12_readThing_41 rfl (q := 0) rfl ?_
        refine rf_X12_13 F gs_131 rfl dX12_readThing_42 ?_
        refine z_iconst F dX12_readThing_45 ?_
        refine z_iald F hI gs_133 (by omega) (by omega) (by decide) (show Bd 133 1 = (0, 10) from rfl) dX12_readThing_46 (fun v378 (ev378 : v378 = M376 133 1) av378 bv378 => ?_)
        refine z_iconst F dX12_readThing_47 ?_
        refine z_isub F dX12_readThing_48 ?_
        refine zv_i (rest := []) F (kp_X12_number l M376 ⟨hI, hW⟩ 0 (by omega) (by omega) (v378 - 1) (by omega) (by omega) (by omega)) cs_X12_199 (T := TX12) (N := 44) (ci := 12) rfl gs_131 (by decide) (by decide) rfl rfl rfl (Nat.le_of_ble_eq_true rfl) dX12_readThing_49 (fun v379 M380 rv379 hI p381 => ?_)
        obtain ⟨hI, hW⟩ := hI
        obtain ⟨⟨av379, bv379⟩, fp381, xp381⟩ := p381
        have hF := hF.call fp381 (by decide)
        have tM380_133_6 : M380 133 6 = M376 133 6 := fp381.at (by decide)
        have tM380_133_1 : M380 133 1 = M376 133 1 := fp381.at (by decide)
        have tM380_133_2 : M380 133 2 = M376 133 2 := fp381.at (by decide)
        have tM380_133_4 : M380 133 4 = M376 133 4 := fp381.at (by decide)
        have hq9 := wl_fr fp381 (by decide)
        have hL := hq9.2 hL
        have cM380 := hq9.1
        clear hq9
        have hkv379 : 0 ≤ v379 ∧ v379 ≤ 9 := by omega
        refine z_istore_n F dX12_readThing_52 rfl (by decide) (ls' := [(1, ii v379), (0, .ref (ad 131))]) rfl ?_
        refine z_aload_n F dX12_readThing_53 rfl (q := 1) rfl ?_
        refine z_ldcS (j := 61) F dX12_readThing_54 rfl rfl rfl ?_
        refine z_eq (st' := [.ref (ad 1061), .ref (ad 131)]) rfl rfl rfl ?_
        refine zv_v (rest := []) F (kp_X12_mustWord_131_1061 l M380 ⟨hI, hW⟩ (by omega)) cs_X12_215 (T := TX12) (N := 44) (ci := 12) rfl gs_131 (by decide) (by decide) rfl rfl rfl (Nat.le_of_ble_eq_true rfl) dX12_readThing_56 (fun M382 hI p383 => ?_)
        obtain ⟨hI, hW⟩ := hI
        obtain ⟨fp383, xp383⟩ := p383
        have hF := hF.call fp383 (by decide)
        have tM382_133_6 : M382 133 6 = M380 133 6 := fp383.at (by decide)
        have tM382_133_1 : M382 133 1 = M380 133 1 := fp383.at (by decide)
        have tM382_133_2 : M382 133 2 = M380 133 2 := fp383.at (by decide)
        have tM382_133_4 : M382 133 4 = M380 133 4 := fp383.at (by decide)
        have hq9 := wl_fr fp383 (by decide)
        have hL := hq9.2 hL
        have cM382 := hq9.1
        clear hq9
        refine z_aload_n F dX12_readThing_59 rfl (q := 1) rfl ?_
        refine z_iconst F dX12_readThing_60 ?_
        refine z_bipush F dX12_readThing_61 (by decide +kernel) ?_
        refine zv_i (rest := []) F (kp_X12_number l M382 ⟨hI, hW⟩ 0 (by omega) (by omega) 99 (by omega) (by omega) (by omega)) cs_X12_199 (T := TX12) (N := 44) (ci := 12) rfl gs_131 (by decide) (by decide) rfl rfl rfl (Nat.le_of_ble_eq_true rfl) dX12_readThing_63 (fun v384 M385 rv384 hI p386 => ?_)
        obtain ⟨hI, hW⟩ := hI
        obtain ⟨⟨av384, bv384⟩, fp386, xp386⟩ := p386
        have hF := hF.call fp386 (by decide)
        have tM385_133_6 : M385 133 6 = M382 133 6 := fp386.at (by decide)
        have tM385_133_1 : M385 133 1 = M382 133 1 := fp386.at (by decide)
        have tM385_133_2 : M385 133 2 = M382 133 2 := fp386.at (by decide)
        have tM385_133_4 : M385 133 4 = M382 133 4 := fp386.at (by decide)
        have hq9 := wl_fr fp386 (by decide)
        have hL := hq9.2 hL
        have cM385 := hq9.1
        clear hq9
        have hkv384 : 0 ≤ v384 ∧ v384 ≤ 99 := by omega
        refine z_istore_n F dX12_readThing_66 rfl (by decide) (ls' := [(2, ii v384), (1, ii v379), (0, .ref (ad 131))]) rfl ?_
        refine z_aload_n F dX12_readThing_67 rfl (q := 2) rfl ?_
        refine z_ldcS (j := 62) F dX12_readThing_68 rfl rfl rfl ?_
        refine z_eq (st' := [.ref (ad 1062), .ref (ad 131)]) rfl rfl rfl ?_
        refine zv_i (rest := []) F (kp_X12_took_131_1062 l M385 ⟨hI, hW⟩ (by omega)) cs_X12_130 (T := TX12) (N := 44) (ci := 12) rfl gs_131 (by decide) (by decide) rfl rfl rfl (Nat.le_of_ble_eq_true rfl) dX12_readThing_70 (fun v387 M388 rv387 hI p389 => ?_)
        obtain ⟨hI, hW⟩ := hI
        obtain ⟨⟨av387, bv387⟩, fp389, xp389⟩ := p389
        have hF := hF.call fp389 (by decide)
        have tM388_133_6 : M388 133 6 = M385 133 6 := fp389.at (by decide)
        have tM388_133_1 : M388 133 1 = M385 133 1 := fp389.at (by decide)
        have tM388_133_2 : M388 133 2 = M385 133 2 := fp389.at (by decide)
        have tM388_133_4 : M388 133 4 = M385 133 4 := fp389.at (by decide)
        have hq9 := wl_fr fp389 (by decide)
        have hL := hq9.2 hL
        have cM388 := hq9.1
        clear hq9
        refine z_if_eq (tgt := 86) F dX12_readThing_73 (by decide +kernel) (by omega) (fun c390 => ?_) (fun c390 => ?_)
        · refine z_iconst F dX12_readThing_86 ?_
          refine z_istore_n F dX12_readThing_87 rfl (by decide) (ls' := [(3, ii 0), (2, ii v384), (1, ii v379), (0, .ref (ad 131))]) rfl ?_
          refine z_aload_n F dX12_readThing_88 rfl (q := 3) rfl ?_
          refine z_ldcS (j := 63) F dX12_readThing_89 rfl rfl rfl ?_
          refine z_eq (st' := [.ref (ad 1063), .ref (ad 131)]) rfl rfl rfl ?_
          refine zv_i (rest := []) F (kp_X12_took_131_1063 l M388 ⟨hI, hW⟩ (by omega)) cs_X12_130 (T := TX12) (N := 44) (ci := 12) rfl gs_131 (by decide) (by decide) rfl rfl rfl (Nat.le_of_ble_eq_true rfl) dX12_readThing_91 (fun v391 M392 rv391 hI p393 => ?_)
          obtain ⟨hI, hW⟩ := hI
          obtain ⟨⟨av391, bv391⟩, fp393, xp393⟩ := p393
          have hF := hF.call fp393 (by decide)
          have tM392_133_6 : M392 133 6 = M388 133 6 := fp393.at (by decide)
          have tM392_133_1 : M392 133 1 = M388 133 1 := fp393.at (by decide)
          have tM392_133_2 : M392 133 2 = M388 133 2 := fp393.at (by decide)
          have tM392_133_4 : M392 133 4 = M388 133 4 := fp393.at (by decide)
          have hq9 := wl_fr fp393 (by decide)
          have hL := hq9.2 hL
          have cM392 := hq9.1
          clear hq9
          refine z_if_eq (tgt := 107) F dX12_readThing_94 (by decide +kernel) (by omega) (fun c394 => ?_) (fun c394 => ?_)
          · refine z_iconst F dX12_readThing_107 ?_
            refine z_istore F dX12_readThing_108 (by decide) (ls' := [(4, ii 1), (3, ii 0), (2, ii v384), (1, ii v379), (0, .ref (ad 131))]) rfl ?_
            refine z_aload_n F dX12_readThing_110 rfl (q := 4) rfl ?_
            refine z_ldcS (j := 64) F dX12_readThing_111 rfl rfl rfl ?_
            refine z_eq (st' := [.ref (ad 1064), .ref (ad 131)]) rfl rfl rfl ?_
            refine zv_i (rest := []) F (kp_X12_took_131_1064 l M392 ⟨hI, hW⟩ (by omega)) cs_X12_130 (T := TX12) (N := 44) (ci := 12) rfl gs_131 (by decide) (by decide) rfl rfl rfl (Nat.le_of_ble_eq_true rfl) dX12_readThing_113 (fun v395 M396 rv395 hI p397 => ?_)
            obtain ⟨hI, hW⟩ := hI
            obtain ⟨⟨av395, bv395⟩, fp397, xp397⟩ := p397
            have hF := hF.call fp397 (by decide)
            have tM396_133_6 : M396 133 6 = M392 133 6 := fp397.at (by decide)
            have tM396_133_1 : M396 133 1 = M392 133 1 := fp397.at (by decide)
            have tM396_133_2 : M396 133 2 = M392 133 2 := fp397.at (by decide)
            have tM396_133_4 : M396 133 4 = M392 133 4 := fp397.at (by decide)
            have hq9 := wl_fr fp397 (by decide)
            have hL := hq9.2 hL
            have cM396 := hq9.1
            clear hq9
            refine z_istore F dX12_readThing_116 (by decide) (ls' := [(5, ii v395), (4, ii 1), (3, ii 0), (2, ii v384), (1, ii v379), (0, .ref (ad 131))]) rfl ?_
            refine z_aload_n F dX12_readThing_118 rfl (q := 5) rfl ?_
            refine gf_X12_108 F hI gs_131 rfl bd_131_12 dX12_readThing_119 (fun v398 ev398 av398 bv398 => ?_)
            refine z_if_eq (tgt := 126) F dX12_readThing_122 (by decide +kernel) (by omega) (fun c399 => ?_) (fun c399 => ?_)
            · refine z_aload_n F dX12_readThing_126 rfl (q := 5) rfl ?_
              refine rf_X12_13 F gs_131 rfl dX12_readThing_127 ?_
              refine z_iconst F dX12_readThing_130 ?_
              refine z_iald F hI gs_133 (by omega) (by omega) (by decide) (show Bd 133 2 = (0, 8) from rfl) dX12_readThing_131 (fun v400 (ev400 : v400 = M396 133 2) av400 bv400 => ?_)
              have k401 : 0 ≤ v400 ∧ v400 ≤ 7 := by omega
              refine z_istore F dX12_readThing_132 (by decide) (ls' := [(6, ii v400), (5, ii v395), (4, ii 1), (3, ii 0), (2, ii v384), (1, ii v379), (0, .ref (ad 131))]) rfl ?_
              refine z_aload_n F dX12_readThing_134 rfl (q := 6) rfl ?_
              refine rf_X12_13 F gs_131 rfl dX12_readThing_135 ?_
              refine z_bipush F dX12_readThing_138 (by decide +kernel) ?_
              refine z_iload F dX12_readThing_140 (q := 0) rfl ?_
              refine z_iadd F dX12_readThing_142 ?_
              refine z_iload_n F dX12_readThing_143 rfl (q := 5) rfl ?_
              refine z_iast F hI gs_133 (by omega) (by omega) (by decide) (bd_133.trans (kn_at (by omega) (by omega))) dX12_readThing_144 (by omega) (by omega) (fun M403 hI sf402 f402 => ?_)
              have tM403_131_7 : M403 131 7 = M396 131 7 := f402 131 7 (fun q => absurd q.1 (by decide))
              have tM403_131_8 : M403 131 8 = M396 131 8 := f402 131 8 (fun q => absurd q.1 (by decide))
              have tM403_131_9 : M403 131 9 = M396 131 9 := f402 131 9 (fun q => absurd q.1 (by decide))
              have tM403_131_10 : M403 131 10 = M396 131 10 := f402 131 10 (fun q => absurd q.1 (by decide))
              have tM403_131_12 : M403 131 12 = M396 131 12 := f402 131 12 (fun q => absurd q.1 (by decide))
              have tM403_131_16 : M403 131 16 = M396 131 16 := f402 131 16 (fun q => absurd q.1 (by decide))
              have tM403_133_6 : M403 133 6 = M396 133 6 := f402 133 6 (fun q => by have := q.2; omega)
              have tM403_133_1 : M403 133 1 = M396 133 1 := f402 133 1 (fun q => by have := q.2; omega)
              have tM403_133_2 : M403 133 2 = M396 133 2 := f402 133 2 (fun q => by have := q.2; omega)
              have tM403_133_4 : M403 133 4 = M396 133 4 := f402 133 4 (fun q => by have := q.2; omega)
              have hq9 := wl_wr f402 (by omega)
              have hL := hq9.2 hL
              have cM403 := hq9.1
              clear hq9
              have hF := hF.wr f402 (by decide) (by decide)
              have hW : WFk M403 := hW.site f402 (by decide)
              refine z_aload_n F dX12_readThing_145 rfl (q := 6) rfl ?_
              refine rf_X12_13 F gs_131 rfl dX12_readThing_146 ?_
              refine z_bipush F dX12_readThing_149 (by decide +kernel) ?_
              refine z_iload F dX12_readThing_151 (q := 0) rfl ?_
              refine z_iadd F dX12_readThing_153 ?_
              refine z_iload_n F dX12_readThing_154 rfl (q := 4) rfl ?_
              refine z_iast F hI gs_133 (by omega) (by omega) (by decide) (bd_133.trans (kn_any (by omega) (by omega))) dX12_readThing_155 (by omega) (by omega) (fun M405 hI sf404 f404 => ?_)
              have tM405_131_7 : M405 131 7 = M403 131 7 := f404 131 7 (fun q => absurd q.1 (by decide))
              have tM405_131_8 : M405 131 8 = M403 131 8 := f404 131 8 (fun q => absurd q.1 (by decide))
              have tM405_131_9 : M405 131 9 = M403 131 9 := f404 131 9 (fun q => absurd q.1 (by decide))
              have tM405_131_10 : M405 131 10 = M403 131 10 := f404 131 10 (fun q => absurd q.1 (by decide))
              have tM405_131_12 : M405 131 12 = M403 131 12 := f404 131 12 (fun q => absurd q.1 (by decide))
              have tM405_131_16 : M405 131 16 = M403 131 16 := f404 131 16 (fun q => absurd q.1 (by decide))
              have tM405_133_6 : M405 133 6 = M403 133 6 := f404 133 6 (fun q => by have := q.2; omega)
              have tM405_133_1 : M405 133 1 = M403 133 1 := f404 133 1 (fun q => by have := q.2; omega)
              have tM405_133_2 : M405 133 2 = M403 133 2 := f404 133 2 (fun q => by have := q.2; omega)
              have tM405_133_4 : M405 133 4 = M403 133 4 := f404 133 4 (fun q => by have := q.2; omega)
              have hq9 := wl_wr f404 (by omega)
              have hL := hq9.2 hL
              have cM405 := hq9.1
              clear hq9
              have hF := hF.wr f404 (by decide) (by decide)
              have hW : WFk M405 := hW.site f404 (by decide)
              refine z_aload_n F dX12_readThing_156 rfl (q := 6) rfl ?_
              refine rf_X12_13 F gs_131 rfl dX12_readThing_157 ?_
              refine z_bipush F dX12_readThing_160 (by decide +kernel) ?_
              refine z_iload F dX12_readThing_162 (q := 0) rfl ?_
              refine z_iadd F dX12_readThing_164 ?_
              refine z_iload_n F dX12_readThing_165 rfl (q := 3) rfl ?_
              refine z_iast F hI gs_133 (by omega) (by omega) (by decide) (bd_133.trans (kn_any (by omega) (by omega))) dX12_readThing_166 (by omega) (by omega) (fun M407 hI sf406 f406 => ?_)
              have tM407_131_7 : M407 131 7 = M405 131 7 := f406 131 7 (fun q => absurd q.1 (by decide))
              have tM407_131_8 : M407 131 8 = M405 131 8 := f406 131 8 (fun q => absurd q.1 (by decide))
              have tM407_131_9 : M407 131 9 = M405 131 9 := f406 131 9 (fun q => absurd q.1 (by decide))
              have tM407_131_10 : M407 131 10 = M405 131 10 := f406 131 10 (fun q => absurd q.1 (by decide))
              have tM407_131_12 : M407 131 12 = M405 131 12 := f406 131 12 (fun q => absurd q.1 (by decide))
              have tM407_131_16 : M407 131 16 = M405 131 16 := f406 131 16 (fun q => absurd q.1 (by decide))
              have tM407_133_6 : M407 133 6 = M405 133 6 := f406 133 6 (fun q => by have := q.2; omega)
              have tM407_133_1 : M407 133 1 = M405 133 1 := f406 133 1 (fun q => by have := q.2; omega)
              have tM407_133_2 : M407 133 2 = M405 133 2 := f406 133 2 (fun q => by have := q.2; omega)
              have tM407_133_4 : M407 133 4 = M405 133 4 := f406 133 4 (fun q => by have := q.2; omega)
              have hq9 := wl_wr f406 (by omega)
              have hL := hq9.2 hL
              have cM407 := hq9.1
              clear hq9
              have hF := hF.wr f406 (by decide) (by decide)
              have hW : WFk M407 := hW.site f406 (by decide)
              refine z_aload_n F dX12_readThing_167 rfl (q := 6) rfl ?_
              refine rf_X12_13 F gs_131 rfl dX12_readThing_168 ?_
              refine z_bipush F dX12_readThing_171 (by decide +kernel) ?_
              refine z_iload F dX12_readThing_173 (q := 0) rfl ?_
              refine z_iadd F dX12_readThing_175 ?_
              refine z_iload F dX12_readThing_176 (q := 2) rfl ?_
              refine z_iast F hI gs_133 (by omega) (by omega) (by decide) (bd_133.trans (kn_any (by omega) (by omega))) dX12_readThing_178 (by omega) (by omega) (fun M409 hI sf408 f408 => ?_)
              have tM409_131_7 : M409 131 7 = M407 131 7 := f408 131 7 (fun q => absurd q.1 (by decide))
              have tM409_131_8 : M409 131 8 = M407 131 8 := f408 131 8 (fun q => absurd q.1 (by decide))
              have tM409_131_9 : M409 131 9 = M407 131 9 := f408 131 9 (fun q => absurd q.1 (by decide))
              have tM409_131_10 : M409 131 10 = M407 131 10 := f408 131 10 (fun q => absurd q.1 (by decide))
              have tM409_131_12 : M409 131 12 = M407 131 12 := f408 131 12 (fun q => absurd q.1 (by decide))
              have tM409_131_16 : M409 131 16 = M407 131 16 := f408 131 16 (fun q => absurd q.1 (by decide))
              have tM409_133_6 : M409 133 6 = M407 133 6 := f408 133 6 (fun q => by have := q.2; omega)
              have tM409_133_1 : M409 133 1 = M407 133 1 := f408 133 1 (fun q => by have := q.2; omega)
              have tM409_133_2 : M409 133 2 = M407 133 2 := f408 133 2 (fun q => by have := q.2; omega)
              have tM409_133_4 : M409 133 4 = M407 133 4 := f408 133 4 (fun q => by have := q.2; omega)
              have hq9 := wl_wr f408 (by omega)
              have hL := hq9.2 hL
              have cM409 := hq9.1
              clear hq9
              have hF := hF.wr f408 (by decide) (by decide)
              have hW : WFk M409 := hW.site f408 (by decide)
              refine z_aload_n F dX12_readThing_179 rfl (q := 6) rfl ?_
              refine rf_X12_13 F gs_131 rfl dX12_readThing_180 ?_
              refine z_bipush F dX12_readThing_183 (by decide +kernel) ?_
              refine z_iload F dX12_readThing_185 (q := 0) rfl ?_
              refine z_iadd F dX12_readThing_187 ?_
              refine z_iload F dX12_readThing_188 (q := 1) rfl ?_
              refine z_if_eq (tgt := 197) F dX12_readThing_190 (by decide +kernel) (by omega) (fun c410 => ?_) (fun c410 => ?_)
              · refine z_iconst F dX12_readThing_197 ?_
                refine z_iast F hI gs_133 (by omega) (by omega) (by decide) (bd_133.trans (kn_any (by omega) (by omega))) dX12_readThing_198 (by omega) (by omega) (fun M412 hI sf411 f411 => ?_)
                have tM412_131_7 : M412 131 7 = M409 131 7 := f411 131 7 (fun q => absurd q.1 (by decide))
                have tM412_131_8 : M412 131 8 = M409 131 8 := f411 131 8 (fun q => absurd q.1 (by decide))
                have tM412_131_9 : M412 131 9 = M409 131 9 := f411 131 9 (fun q => absurd q.1 (by decide))
                have tM412_131_10 : M412 131 10 = M409 131 10 := f411 131 10 (fun q => absurd q.1 (by decide))
                have tM412_131_12 : M412 131 12 = M409 131 12 := f411 131 12 (fun q => absurd q.1 (by decide))
                have tM412_131_16 : M412 131 16 = M409 131 16 := f411 131 16 (fun q => absurd q.1 (by decide))
                have tM412_133_6 : M412 133 6 = M409 133 6 := f411 133 6 (fun q => by have := q.2; omega)
                have tM412_133_1 : M412 133 1 = M409 133 1 := f411 133 1 (fun q => by have := q.2; omega)
                have tM412_133_2 : M412 133 2 = M409 133 2 := f411 133 2 (fun q => by have := q.2; omega)
                have tM412_133_4 : M412 133 4 = M409 133 4 := f411 133 4 (fun q => by have := q.2; omega)
                have hq9 := wl_wr f411 (by omega)
                have hL := hq9.2 hL
                have cM412 := hq9.1
                clear hq9
                have hF := hF.wr f411 (by decide) (by decide)
                have hW : WFk M412 := hW.site f411 (by decide)
                refine z_aload_n F dX12_readThing_199 rfl (q := 6) rfl ?_
                refine rf_X12_13 F gs_131 rfl dX12_readThing_200 ?_
                refine z_iconst F dX12_readThing_203 ?_
                refine z_dup2 F dX12_readThing_204 rfl rfl ?_
                refine z_iald F hI gs_133 (by omega) (by omega) (by decide) (show Bd 133 2 = (0, 8) from rfl) dX12_readThing_205 (fun v413 (ev413 : v413 = M412 133 2) av413 bv413 => ?_)
                have q414 : v400 = M403 133 2 := ev400.trans (f402 133 2 (fun q => by omega)).symm
                have q415 : v400 = M405 133 2 := q414.trans (f404 133 2 (fun q => by omega)).symm
                have q416 : v400 = M407 133 2 := q415.trans (f406 133 2 (fun q => by omega)).symm
                have q417 : v400 = M409 133 2 := q416.trans (f408 133 2 (fun q => by omega)).symm
                have q418 : v400 = M412 133 2 := q417.trans (f411 133 2 (fun q => by omega)).symm
                have zv413 : v400 = v413 := q418.trans ev413.symm
                subst zv413
                refine z_iconst F dX12_readThing_206 ?_
                refine z_iadd F dX12_readThing_207 ?_
                refine z_nm (fun v420 ev420 => ?_)
                refine z_iast F hI gs_133 (by omega) (by omega) (by decide) (show Bd 133 2 = (0, 8) from rfl) dX12_readThing_208 (by omega) (by omega) (fun M421 hI sf419 f419 => ?_)
                have tM421_131_7 : M421 131 7 = M412 131 7 := f419 131 7 (fun q => absurd q.1 (by decide))
                have tM421_131_8 : M421 131 8 = M412 131 8 := f419 131 8 (fun q => absurd q.1 (by decide))
                have tM421_131_9 : M421 131 9 = M412 131 9 := f419 131 9 (fun q => absurd q.1 (by decide))
                have tM421_131_10 : M421 131 10 = M412 131 10 := f419 131 10 (fun q => absurd q.1 (by decide))
                have tM421_131_12 : M421 131 12 = M412 131 12 := f419 131 12 (fun q => absurd q.1 (by decide))
                have tM421_131_16 : M421 131 16 = M412 131 16 := f419 131 16 (fun q => absurd q.1 (by decide))
                have tM421_133_6 : M421 133 6 = M412 133 6 := f419 133 6 (fun q => absurd q.2 (by decide))
                have tM421_133_1 : M421 133 1 = M412 133 1 := f419 133 1 (fun q => absurd q.2 (by decide))
                have tM421_133_4 : M421 133 4 = M412 133 4 := f419 133 4 (fun q => absurd q.2 (by decide))
                have hq9 := wl_wr f419 (by omega)
                have hL := hq9.2 hL
                have cM421 := hq9.1
                clear hq9
                have hF := hF.wr f419 (by decide) (by decide)
                have hW : WFk M421 := hW.site f419 (by decide)
                have sf419 : M421 133 2 = v420 := sf419
                exact hret _ 209 _ ⟨hI, hW⟩ ⟨hF, ⟨hL, by omega⟩⟩ dX12_readThing_209
              · refine z_iconst F dX12_readThing_193 ?_
                refine z_goto (tgt := 198) F dX12_readThing_194 (by decide +kernel) ?_
                refine z_iast F hI gs_133 (by omega) (by omega) (by decide) (bd_133.trans (kn_any (by omega) (by omega))) dX12_readThing_198 (by omega) (by omega) (fun M423 hI sf422 f422 => ?_)
                have tM423_131_7 : M423 131 7 = M409 131 7 := f422 131 7 (fun q => absurd q.1 (by decide))
                have tM423_131_8 : M423 131 8 = M409 131 8 := f422 131 8 (fun q => absurd q.1 (by decide))
                have tM423_131_9 : M423 131 9 = M409 131 9 := f422 131 9 (fun q => absurd q.1 (by decide))
                have tM423_131_10 : M423 131 10 = M409 131 10 := f422 131 10 (fun q => absurd q.1 (by decide))
                have tM423_131_12 : M423 131 12 = M409 131 12 := f422 131 12 (fun q => absurd q.1 (by decide))
                have tM423_131_16 : M423 131 16 = M409 131 16 := f422 131 16 (fun q => absurd q.1 (by decide))
                have tM423_133_6 : M423 133 6 = M409 133 6 := f422 133 6 (fun q => by have := q.2; omega)
                have tM423_133_1 : M423 133 1 = M409 133 1 := f422 133 1 (fun q => by have := q.2; omega)
                have tM423_133_2 : M423 133 2 = M409 133 2 := f422 133 2 (fun q => by have := q.2; omega)
                have tM423_133_4 : M423 133 4 = M409 133 4 := f422 133 4 (fun q => by have := q.2; omega)
                have hq9 := wl_wr f422 (by omega)
                have hL := hq9.2 hL
                have cM423 := hq9.1
                clear hq9
                have hF := hF.wr f422 (by decide) (by decide)
                have hW : WFk M423 := hW.site f422 (by decide)
                refine z_aload_n F dX12_readThing_199 rfl (q := 6) rfl ?_
                refine rf_X12_13 F gs_131 rfl dX12_readThing_200 ?_
                refine z_iconst F dX12_readThing_203 ?_
                refine z_dup2 F dX12_readThing_204 rfl rfl ?_
                refine z_iald F hI gs_133 (by omega) (by omega) (by decide) (show Bd 133 2 = (0, 8) from rfl) dX12_readThing_205 (fun v424 (ev424 : v424 = M423 133 2) av424 bv424 => ?_)
                have q425 : v400 = M403 133 2 := ev400.trans (f402 133 2 (fun q => by omega)).symm
                have q426 : v400 = M405 133 2 := q425.trans (f404 133 2 (fun q => by omega)).symm
                have q427 : v400 = M407 133 2 := q426.trans (f406 133 2 (fun q => by omega)).symm
                have q428 : v400 = M409 133 2 := q427.trans (f408 133 2 (fun q => by omega)).symm
                have q429 : v400 = M423 133 2 := q428.trans (f422 133 2 (fun q => by omega)).symm
                have zv424 : v400 = v424 := q429.trans ev424.symm
                subst zv424
                refine z_iconst F dX12_readThing_206 ?_
                refine z_iadd F dX12_readThing_207 ?_
                refine z_nm (fun v431 ev431 => ?_)
                refine z_iast F hI gs_133 (by omega) (by omega) (by decide) (show Bd 133 2 = (0, 8) from rfl) dX12_readThing_208 (by omega) (by omega) (fun M432 hI sf430 f430 => ?_)
                have tM432_131_7 : M432 131 7 = M423 131 7 := f430 131 7 (fun q => absurd q.1 (by decide))
                have tM432_131_8 : M432 131 8 = M423 131 8 := f430 131 8 (fun q => absurd q.1 (by decide))
                have tM432_131_9 : M432 131 9 = M423 131 9 := f430 131 9 (fun q => absurd q.1 (by decide))
                have tM432_131_10 : M432 131 10 = M423 131 10 := f430 131 10 (fun q => absurd q.1 (by decide))
                have tM432_131_12 : M432 131 12 = M423 131 12 := f430 131 12 (fun q => absurd q.1 (by decide))
                have tM432_131_16 : M432 131 16 = M423 131 16 := f430 131 16 (fun q => absurd q.1 (by decide))
                have tM432_133_6 : M432 133 6 = M423 133 6 := f430 133 6 (fun q => absurd q.2 (by decide))
                have tM432_133_1 : M432 133 1 = M423 133 1 := f430 133 1 (fun q => absurd q.2 (by decide))
                have tM432_133_4 : M432 133 4 = M423 133 4 := f430 133 4 (fun q => absurd q.2 (by decide))
                have hq9 := wl_wr f430 (by omega)
                have hL := hq9.2 hL
                have cM432 := hq9.1
                clear hq9
                have hF := hF.wr f430 (by decide) (by decide)
                have hW : WFk M432 := hW.site f430 (by decide)
                have sf430 : M432 133 2 = v431 := sf430
                exact hret _ 209 _ ⟨hI, hW⟩ ⟨hF, ⟨hL, by omega⟩⟩ dX12_readThing_209
            · exact hret _ 125 _ ⟨hI, hW⟩ ⟨hF, ⟨hL, by omega⟩⟩ dX12_readThing_125
          · refine z_aload_n F dX12_readThing_97 rfl (q := 3) rfl ?_
            refine z_iconst F dX12_readThing_98 ?_
            refine z_bipush F dX12_readThing_99 (by decide +kernel) ?_
            refine zv_i (rest := []) F (kp_X12_number l M392 ⟨hI, hW⟩ 1 (by omega) (by omega) 9 (by omega) (by omega) (by omega)) cs_X12_199 (T := TX12) (N := 44) (ci := 12) rfl gs_131 (by decide) (by decide) rfl rfl rfl (Nat.le_of_ble_eq_true rfl) dX12_readThing_101 (fun v433 M434 rv433 hI p435 => ?_)
            obtain ⟨hI, hW⟩ := hI
            obtain ⟨⟨av433, bv433⟩, fp435, xp435⟩ := p435
            have hF := hF.call fp435 (by decide)
            have tM434_133_6 : M434 133 6 = M392 133 6 := fp435.at (by decide)
            have tM434_133_1 : M434 133 1 = M392 133 1 := fp435.at (by decide)
            have tM434_133_2 : M434 133 2 = M392 133 2 := fp435.at (by decide)
            have tM434_133_4 : M434 133 4 = M392 133 4 := fp435.at (by decide)
            have hq9 := wl_fr fp435 (by decide)
            have hL := hq9.2 hL
            have cM434 := hq9.1
            clear hq9
            have hkv433 : 1 ≤ v433 ∧ v433 ≤ 9 := by omega
            refine z_goto (tgt := 108) F dX12_readThing_104 (by decide +kernel) ?_
            refine z_istore F dX12_readThing_108 (by decide) (ls' := [(4, ii v433), (3, ii 0), (2, ii v384), (1, ii v379), (0, .ref (ad 131))]) rfl ?_
            refine z_aload_n F dX12_readThing_110 rfl (q := 4) rfl ?_
            refine z_ldcS (j := 64) F dX12_readThing_111 rfl rfl rfl ?_
            refine z_eq (st' := [.ref (ad 1064), .ref (ad 131)]) rfl rfl rfl ?_
            refine zv_i (rest := []) F (kp_X12_took_131_1064 l M434 ⟨hI, hW⟩ (by omega)) cs_X12_130 (T := TX12) (N := 44) (ci := 12) rfl gs_131 (by decide) (by decide) rfl rfl rfl (Nat.le_of_ble_eq_true rfl) dX12_readThing_113 (fun v436 M437 rv436 hI p438 => ?_)
            obtain ⟨hI, hW⟩ := hI
            obtain ⟨⟨av436, bv436⟩, fp438, xp438⟩ := p438
            have hF := hF.call fp438 (by decide)
            have tM437_133_6 : M437 133 6 = M434 133 6 := fp438.at (by decide)
            have tM437_133_1 : M437 133 1 = M434 133 1 := fp438.at (by decide)
            have tM437_133_2 : M437 133 2 = M434 133 2 := fp438.at (by decide)
            have tM437_133_4 : M437 133 4 = M434 133 4 := fp438.at (by decide)
            have hq9 := wl_fr fp438 (by decide)
            have hL := hq9.2 hL
            have cM437 := hq9.1
            clear hq9
            refine z_istore F dX12_readThing_116 (by decide) (ls' := [(5, ii v436), (4, ii v433), (3, ii 0), (2, ii v384), (1, ii v379), (0, .ref (ad 131))]) rfl ?_
            refine z_aload_n F dX12_readThing_118 rfl (q := 5) rfl ?_
            refine gf_X12_108 F hI gs_131 rfl bd_131_12 dX12_readThing_119 (fun v439 ev439 av439 bv439 => ?_)
            refine z_if_eq (tgt := 126) F dX12_readThing_122 (by decide +kernel) (by omega) (fun c440 => ?_) (fun c440 => ?_)
            · refine z_aload_n F dX12_readThing_126 rfl (q := 5) rfl ?_
              refine rf_X12_13 F gs_131 rfl dX12_readThing_127 ?_
              refine z_iconst F dX12_readThing_130 ?_
              refine z_iald F hI gs_133 (by omega) (by omega) (by decide) (show Bd 133 2 = (0, 8) from rfl) dX12_readThing_131 (fun v441 (ev441 : v441 = M437 133 2) av441 bv441 => ?_)
              have k442 : 0 ≤ v441 ∧ v441 ≤ 7 := by omega
              refine z_istore F dX12_readThing_132 (by decide) (ls' := [(6, ii v441), (5, ii v436), (4, ii v433), (3, ii 0), (2, ii v384), (1, ii v379), (0, .ref (ad 131))]) rfl ?_
              refine z_aload_n F dX12_readThing_134 rfl (q := 6) rfl ?_
              refine rf_X12_13 F gs_131 rfl dX12_readThing_135 ?_
              refine z_bipush F dX12_readThing_138 (by decide +kernel) ?_
              refine z_iload F dX12_readThing_140 (q := 0) rfl ?_
              refine z_iadd F dX12_readThing_142 ?_
              refine z_iload_n F dX12_readThing_143 rfl (q := 5) rfl ?_
              refine z_iast F hI gs_133 (by omega) (by omega) (by decide) (bd_133.trans (kn_at (by omega) (by omega))) dX12_readThing_144 (by omega) (by omega) (fun M444 hI sf443 f443 => ?_)
              have tM444_131_7 : M444 131 7 = M437 131 7 := f443 131 7 (fun q => absurd q.1 (by decide))
              have tM444_131_8 : M444 131 8 = M437 131 8 := f443 131 8 (fun q => absurd q.1 (by decide))
              have tM444_131_9 : M444 131 9 = M437 131 9 := f443 131 9 (fun q => absurd q.1 (by decide))
              have tM444_131_10 : M444 131 10 = M437 131 10 := f443 131 10 (fun q => absurd q.1 (by decide))
              have tM444_131_12 : M444 131 12 = M437 131 12 := f443 131 12 (fun q => absurd q.1 (by decide))
              have tM444_131_16 : M444 131 16 = M437 131 16 := f443 131 16 (fun q => absurd q.1 (by decide))
              have tM444_133_6 : M444 133 6 = M437 133 6 := f443 133 6 (fun q => by have := q.2; omega)
              have tM444_133_1 : M444 133 1 = M437 133 1 := f443 133 1 (fun q => by have := q.2; omega)
              have tM444_133_2 : M444 133 2 = M437 133 2 := f443 133 2 (fun q => by have := q.2; omega)
              have tM444_133_4 : M444 133 4 = M437 133 4 := f443 133 4 (fun q => by have := q.2; omega)
              have hq9 := wl_wr f443 (by omega)
              have hL := hq9.2 hL
              have cM444 := hq9.1
              clear hq9
              have hF := hF.wr f443 (by decide) (by decide)
              have hW : WFk M444 := hW.site f443 (by decide)
              refine z_aload_n F dX12_readThing_145 rfl (q := 6) rfl ?_
              refine rf_X12_13 F gs_131 rfl dX12_readThing_146 ?_
              refine z_bipush F dX12_readThing_149 (by decide +kernel) ?_
              refine z_iload F dX12_readThing_151 (q := 0) rfl ?_
              refine z_iadd F dX12_readThing_153 ?_
              refine z_iload_n F dX12_readThing_154 rfl (q := 4) rfl ?_
              refine z_iast F hI gs_133 (by omega) (by omega) (by decide) (bd_133.trans (kn_any (by omega) (by omega))) dX12_readThing_155 (by omega) (by omega) (fun M446 hI sf445 f445 => ?_)
              have tM446_131_7 : M446 131 7 = M444 131 7 := f445 131 7 (fun q => absurd q.1 (by decide))
              have tM446_131_8 : M446 131 8 = M444 131 8 := f445 131 8 (fun q => absurd q.1 (by decide))
              have tM446_131_9 : M446 131 9 = M444 131 9 := f445 131 9 (fun q => absurd q.1 (by decide))
              have tM446_131_10 : M446 131 10 = M444 131 10 := f445 131 10 (fun q => absurd q.1 (by decide))
              have tM446_131_12 : M446 131 12 = M444 131 12 := f445 131 12 (fun q => absurd q.1 (by decide))
              have tM446_131_16 : M446 131 16 = M444 131 16 := f445 131 16 (fun q => absurd q.1 (by decide))
              have tM446_133_6 : M446 133 6 = M444 133 6 := f445 133 6 (fun q => by have := q.2; omega)
              have tM446_133_1 : M446 133 1 = M444 133 1 := f445 133 1 (fun q => by have := q.2; omega)
              have tM446_133_2 : M446 133 2 = M444 133 2 := f445 133 2 (fun q => by have := q.2; omega)
              have tM446_133_4 : M446 133 4 = M444 133 4 := f445 133 4 (fun q => by have := q.2; omega)
              have hq9 := wl_wr f445 (by omega)
              have hL := hq9.2 hL
              have cM446 := hq9.1
              clear hq9
              have hF := hF.wr f445 (by decide) (by decide)
              have hW : WFk M446 := hW.site f445 (by decide)
              refine z_aload_n F dX12_readThing_156 rfl (q := 6) rfl ?_
              refine rf_X12_13 F gs_131 rfl dX12_readThing_157 ?_
              refine z_bipush F dX12_readThing_160 (by decide +kernel) ?_
              refine z_iload F dX12_readThing_162 (q := 0) rfl ?_
              refine z_iadd F dX12_readThing_164 ?_
              refine z_iload_n F dX12_readThing_165 rfl (q := 3) rfl ?_
              refine z_iast F hI gs_133 (by omega) (by omega) (by decide) (bd_133.trans (kn_any (by omega) (by omega))) dX12_readThing_166 (by omega) (by omega) (fun M448 hI sf447 f447 => ?_)
              have tM448_131_7 : M448 131 7 = M446 131 7 := f447 131 7 (fun q => absurd q.1 (by decide))
              have tM448_131_8 : M448 131 8 = M446 131 8 := f447 131 8 (fun q => absurd q.1 (by decide))
              have tM448_131_9 : M448 131 9 = M446 131 9 := f447 131 9 (fun q => absurd q.1 (by decide))
              have tM448_131_10 : M448 131 10 = M446 131 10 := f447 131 10 (fun q => absurd q.1 (by decide))
              have tM448_131_12 : M448 131 12 = M446 131 12 := f447 131 12 (fun q => absurd q.1 (by decide))
              have tM448_131_16 : M448 131 16 = M446 131 16 := f447 131 16 (fun q => absurd q.1 (by decide))
              have tM448_133_6 : M448 133 6 = M446 133 6 := f447 133 6 (fun q => by have := q.2; omega)
              have tM448_133_1 : M448 133 1 = M446 133 1 := f447 133 1 (fun q => by have := q.2; omega)
              have tM448_133_2 : M448 133 2 = M446 133 2 := f447 133 2 (fun q => by have := q.2; omega)
              have tM448_133_4 : M448 133 4 = M446 133 4 := f447 133 4 (fun q => by have := q.2; omega)
              have hq9 := wl_wr f447 (by omega)
              have hL := hq9.2 hL
              have cM448 := hq9.1
              clear hq9
              have hF := hF.wr f447 (by decide) (by decide)
              have hW : WFk M448 := hW.site f447 (by decide)
              refine z_aload_n F dX12_readThing_167 rfl (q := 6) rfl ?_
              refine rf_X12_13 F gs_131 rfl dX12_readThing_168 ?_
              refine z_bipush F dX12_readThing_171 (by decide +kernel) ?_
              refine z_iload F dX12_readThing_173 (q := 0) rfl ?_
              refine z_iadd F dX12_readThing_175 ?_
              refine z_iload F dX12_readThing_176 (q := 2) rfl ?_
              refine z_iast F hI gs_133 (by omega) (by omega) (by decide) (bd_133.trans (kn_any (by omega) (by omega))) dX12_readThing_178 (by omega) (by omega) (fun M450 hI sf449 f449 => ?_)
              have tM450_131_7 : M450 131 7 = M448 131 7 := f449 131 7 (fun q => absurd q.1 (by decide))
              have tM450_131_8 : M450 131 8 = M448 131 8 := f449 131 8 (fun q => absurd q.1 (by decide))
              have tM450_131_9 : M450 131 9 = M448 131 9 := f449 131 9 (fun q => absurd q.1 (by decide))
              have tM450_131_10 : M450 131 10 = M448 131 10 := f449 131 10 (fun q => absurd q.1 (by decide))
              have tM450_131_12 : M450 131 12 = M448 131 12 := f449 131 12 (fun q => absurd q.1 (by decide))
              have tM450_131_16 : M450 131 16 = M448 131 16 := f449 131 16 (fun q => absurd q.1 (by decide))
              have tM450_133_6 : M450 133 6 = M448 133 6 := f449 133 6 (fun q => by have := q.2; omega)
              have tM450_133_1 : M450 133 1 = M448 133 1 := f449 133 1 (fun q => by have := q.2; omega)
              have tM450_133_2 : M450 133 2 = M448 133 2 := f449 133 2 (fun q => by have := q.2; omega)
              have tM450_133_4 : M450 133 4 = M448 133 4 := f449 133 4 (fun q => by have := q.2; omega)
              have hq9 := wl_wr f449 (by omega)
              have hL := hq9.2 hL
              have cM450 := hq9.1
              clear hq9
              have hF := hF.wr f449 (by decide) (by decide)
              have hW : WFk M450 := hW.site f449 (by decide)
              refine z_aload_n F dX12_readThing_179 rfl (q := 6) rfl ?_
              refine rf_X12_13 F gs_131 rfl dX12_readThing_180 ?_
              refine z_bipush F dX12_readThing_183 (by decide +kernel) ?_
              refine z_iload F dX12_readThing_185 (q := 0) rfl ?_
              refine z_iadd F dX12_readThing_187 ?_
              refine z_iload F dX12_readThing_188 (q := 1) rfl ?_
              refine z_if_eq (tgt := 197) F dX12_readThing_190 (by decide +kernel) (by omega) (fun c451 => ?_) (fun c451 => ?_)
              · refine z_iconst F dX12_readThing_197 ?_
                refine z_iast F hI gs_133 (by omega) (by omega) (by decide) (bd_133.trans (kn_any (by omega) (by omega))) dX12_readThing_198 (by omega) (by omega) (fun M453 hI sf452 f452 => ?_)
                have tM453_131_7 : M453 131 7 = M450 131 7 := f452 131 7 (fun q => absurd q.1 (by decide))
                have tM453_131_8 : M453 131 8 = M450 131 8 := f452 131 8 (fun q => absurd q.1 (by decide))
                have tM453_131_9 : M453 131 9 = M450 131 9 := f452 131 9 (fun q => absurd q.1 (by decide))
                have tM453_131_10 : M453 131 10 = M450 131 10 := f452 131 10 (fun q => absurd q.1 (by decide))
                have tM453_131_12 : M453 131 12 = M450 131 12 := f452 131 12 (fun q => absurd q.1 (by decide))
                have tM453_131_16 : M453 131 16 = M450 131 16 := f452 131 16 (fun q => absurd q.1 (by decide))
                have tM453_133_6 : M453 133 6 = M450 133 6 := f452 133 6 (fun q => by have := q.2; omega)
                have tM453_133_1 : M453 133 1 = M450 133 1 := f452 133 1 (fun q => by have := q.2; omega)
                have tM453_133_2 : M453 133 2 = M450 133 2 := f452 133 2 (fun q => by have := q.2; omega)
                have tM453_133_4 : M453 133 4 = M450 133 4 := f452 133 4 (fun q => by have := q.2; omega)
                have hq9 := wl_wr f452 (by omega)
                have hL := hq9.2 hL
                have cM453 := hq9.1
                clear hq9
                have hF := hF.wr f452 (by decide) (by decide)
                have hW : WFk M453 := hW.site f452 (by decide)
                refine z_aload_n F dX12_readThing_199 rfl (q := 6) rfl ?_
                refine rf_X12_13 F gs_131 rfl dX12_readThing_200 ?_
                refine z_iconst F dX12_readThing_203 ?_
                refine z_dup2 F dX12_readThing_204 rfl rfl ?_
                refine z_iald F hI gs_133 (by omega) (by omega) (by decide) (show Bd 133 2 = (0, 8) from rfl) dX12_readThing_205 (fun v454 (ev454 : v454 = M453 133 2) av454 bv454 => ?_)
                have q455 : v441 = M444 133 2 := ev441.trans (f443 133 2 (fun q => by omega)).symm
                have q456 : v441 = M446 133 2 := q455.trans (f445 133 2 (fun q => by omega)).symm
                have q457 : v441 = M448 133 2 := q456.trans (f447 133 2 (fun q => by omega)).symm
                have q458 : v441 = M450 133 2 := q457.trans (f449 133 2 (fun q => by omega)).symm
                have q459 : v441 = M453 133 2 := q458.trans (f452 133 2 (fun q => by omega)).symm
                have zv454 : v441 = v454 := q459.trans ev454.symm
                subst zv454
                refine z_iconst F dX12_readThing_206 ?_
                refine z_iadd F dX12_readThing_207 ?_
                refine z_nm (fun v461 ev461 => ?_)
                refine z_iast F hI gs_133 (by omega) (by omega) (by decide) (show Bd 133 2 = (0, 8) from rfl) dX12_readThing_208 (by omega) (by omega) (fun M462 hI sf460 f460 => ?_)
                have tM462_131_7 : M462 131 7 = M453 131 7 := f460 131 7 (fun q => absurd q.1 (by decide))
                have tM462_131_8 : M462 131 8 = M453 131 8 := f460 131 8 (fun q => absurd q.1 (by decide))
                have tM462_131_9 : M462 131 9 = M453 131 9 := f460 131 9 (fun q => absurd q.1 (by decide))
                have tM462_131_10 : M462 131 10 = M453 131 10 := f460 131 10 (fun q => absurd q.1 (by decide))
                have tM462_131_12 : M462 131 12 = M453 131 12 := f460 131 12 (fun q => absurd q.1 (by decide))
                have tM462_131_16 : M462 131 16 = M453 131 16 := f460 131 16 (fun q => absurd q.1 (by decide))
                have tM462_133_6 : M462 133 6 = M453 133 6 := f460 133 6 (fun q => absurd q.2 (by decide))
                have tM462_133_1 : M462 133 1 = M453 133 1 := f460 133 1 (fun q => absurd q.2 (by decide))
                have tM462_133_4 : M462 133 4 = M453 133 4 := f460 133 4 (fun q => absurd q.2 (by decide))
                have hq9 := wl_wr f460 (by omega)
                have hL := hq9.2 hL
                have cM462 := hq9.1
                clear hq9
                have hF := hF.wr f460 (by decide) (by decide)
                have hW : WFk M462 := hW.site f460 (by decide)
                have sf460 : M462 133 2 = v461 := sf460
                exact hret _ 209 _ ⟨hI, hW⟩ ⟨hF, ⟨hL, by omega⟩⟩ dX12_readThing_209
              · refine z_iconst F dX12_readThing_193 ?_
                refine z_goto (tgt := 198) F dX12_readThing_194 (by decide +kernel) ?_
                refine z_iast F hI gs_133 (by omega) (by omega) (by decide) (bd_133.trans (kn_any (by omega) (by omega))) dX12_readThing_198 (by omega) (by omega) (fun M464 hI sf463 f463 => ?_)
                have tM464_131_7 : M464 131 7 = M450 131 7 := f463 131 7 (fun q => absurd q.1 (by decide))
                have tM464_131_8 : M464 131 8 = M450 131 8 := f463 131 8 (fun q => absurd q.1 (by decide))
                have tM464_131_9 : M464 131 9 = M450 131 9 := f463 131 9 (fun q => absurd q.1 (by decide))
                have tM464_131_10 : M464 131 10 = M450 131 10 := f463 131 10 (fun q => absurd q.1 (by decide))
                have tM464_131_12 : M464 131 12 = M450 131 12 := f463 131 12 (fun q => absurd q.1 (by decide))
                have tM464_131_16 : M464 131 16 = M450 131 16 := f463 131 16 (fun q => absurd q.1 (by decide))
                have tM464_133_6 : M464 133 6 = M450 133 6 := f463 133 6 (fun q => by have := q.2; omega)
                have tM464_133_1 : M464 133 1 = M450 133 1 := f463 133 1 (fun q => by have := q.2; omega)
                have tM464_133_2 : M464 133 2 = M450 133 2 := f463 133 2 (fun q => by have := q.2; omega)
                have tM464_133_4 : M464 133 4 = M450 133 4 := f463 133 4 (fun q => by have := q.2; omega)
                have hq9 := wl_wr f463 (by omega)
                have hL := hq9.2 hL
                have cM464 := hq9.1
                clear hq9
                have hF := hF.wr f463 (by decide) (by decide)
                have hW : WFk M464 := hW.site f463 (by decide)
                refine z_aload_n F dX12_readThing_199 rfl (q := 6) rfl ?_
                refine rf_X12_13 F gs_131 rfl dX12_readThing_200 ?_
                refine z_iconst F dX12_readThing_203 ?_
                refine z_dup2 F dX12_readThing_204 rfl rfl ?_
                refine z_iald F hI gs_133 (by omega) (by omega) (by decide) (show Bd 133 2 = (0, 8) from rfl) dX12_readThing_205 (fun v465 (ev465 : v465 = M464 133 2) av465 bv465 => ?_)
                have q466 : v441 = M444 133 2 := ev441.trans (f443 133 2 (fun q => by omega)).symm
                have q467 : v441 = M446 133 2 := q466.trans (f445 133 2 (fun q => by omega)).symm
                have q468 : v441 = M448 133 2 := q467.trans (f447 133 2 (fun q => by omega)).symm
                have q469 : v441 = M450 133 2 := q468.trans (f449 133 2 (fun q => by omega)).symm
                have q470 : v441 = M464 133 2 := q469.trans (f463 133 2 (fun q => by omega)).symm
                have zv465 : v441 = v465 := q470.trans ev465.symm
                subst zv465
                refine z_iconst F dX12_readThing_206 ?_
                refine z_iadd F dX12_readThing_207 ?_
                refine z_nm (fun v472 ev472 => ?_)
                refine z_iast F hI gs_133 (by omega) (by omega) (by decide) (show Bd 133 2 = (0, 8) from rfl) dX12_readThing_208 (by omega) (by omega) (fun M473 hI sf471 f471 => ?_)
                have tM473_131_7 : M473 131 7 = M464 131 7 := f471 131 7 (fun q => absurd q.1 (by decide))
                have tM473_131_8 : M473 131 8 = M464 131 8 := f471 131 8 (fun q => absurd q.1 (by decide))
                have tM473_131_9 : M473 131 9 = M464 131 9 := f471 131 9 (fun q => absurd q.1 (by decide))
                have tM473_131_10 : M473 131 10 = M464 131 10 := f471 131 10 (fun q => absurd q.1 (by decide))
                have tM473_131_12 : M473 131 12 = M464 131 12 := f471 131 12 (fun q => absurd q.1 (by decide))
                have tM473_131_16 : M473 131 16 = M464 131 16 := f471 131 16 (fun q => absurd q.1 (by decide))
                have tM473_133_6 : M473 133 6 = M464 133 6 := f471 133 6 (fun q => absurd q.2 (by decide))
                have tM473_133_1 : M473 133 1 = M464 133 1 := f471 133 1 (fun q => absurd q.2 (by decide))
                have tM473_133_4 : M473 133 4 = M464 133 4 := f471 133 4 (fun q => absurd q.2 (by decide))
                have hq9 := wl_wr f471 (by omega)
                have hL := hq9.2 hL
                have cM473 := hq9.1
                clear hq9
                have hF := hF.wr f471 (by decide) (by decide)
                have hW : WFk M473 := hW.site f471 (by decide)
                have sf471 : M473 133 2 = v472 := sf471
                exact hret _ 209 _ ⟨hI, hW⟩ ⟨hF, ⟨hL, by omega⟩⟩ dX12_readThing_209
            · exact hret _ 125 _ ⟨hI, hW⟩ ⟨hF, ⟨hL, by omega⟩⟩ dX12_readThing_125
        · refine z_aload_n F dX12_readThing_76 rfl (q := 2) rfl ?_
          refine z_iconst F dX12_readThing_77 ?_
          refine z_bipush F dX12_readThing_78 (by decide +kernel) ?_
          refine zv_i (rest := []) F (kp_X12_number l M388 ⟨hI, hW⟩ 0 (by omega) (by omega) 9 (by omega) (by omega) (by omega)) cs_X12_199 (T := TX12) (N := 44) (ci := 12) rfl gs_131 (by decide) (by decide) rfl rfl rfl (Nat.le_of_ble_eq_true rfl) dX12_readThing_80 (fun v474 M475 rv474 hI p476 => ?_)
          obtain ⟨hI, hW⟩ := hI
          obtain ⟨⟨av474, bv474⟩, fp476, xp476⟩ := p476
          have hF := hF.call fp476 (by decide)
          have tM475_133_6 : M475 133 6 = M388 133 6 := fp476.at (by decide)
          have tM475_133_1 : M475 133 1 = M388 133 1 := fp476.at (by decide)
          have tM475_133_2 : M475 133 2 = M388 133 2 := fp476.at (by decide)
          have tM475_133_4 : M475 133 4 = M388 133 4 := fp476.at (by decide)
          have hq9 := wl_fr fp476 (by decide)
          have hL := hq9.2 hL
          have cM475 := hq9.1
          clear hq9
          have hkv474 : 0 ≤ v474 ∧ v474 ≤ 9 := by omega
          refine z_goto (tgt := 87) F dX12_readThing_83 (by decide +kernel) ?_
          refine z_istore_n F dX12_readThing_87 rfl (by decide) (ls' := [(3, ii v474), (2, ii v384), (1, ii v379), (0, .ref (ad 131))]) rfl ?_
          refine z_aload_n F dX12_readThing_88 rfl (q := 3) rfl ?_
          refine z_ldcS (j := 63) F dX12_readThing_89 rfl rfl rfl ?_
          refine z_eq (st' := [.ref (ad 1063), .ref (ad 131)]) rfl rfl rfl ?_
          refine zv_i (rest := []) F (kp_X12_took_131_1063 l M475 ⟨hI, hW⟩ (by omega)) cs_X12_130 (T := TX12) (N := 44) (ci := 12) rfl gs_131 (by decide) (by decide) rfl rfl rfl (Nat.le_of_ble_eq_true rfl) dX12_readThing_91 (fun v477 M478 rv477 hI p479 => ?_)
          obtain ⟨hI, hW⟩ := hI
          obtain ⟨⟨av477, bv477⟩, fp479, xp479⟩ := p479
          have hF := hF.call fp479 (by decide)
          have tM478_133_6 : M478 133 6 = M475 133 6 := fp479.at (by decide)
          have tM478_133_1 : M478 133 1 = M475 133 1 := fp479.at (by decide)
          have tM478_133_2 : M478 133 2 = M475 133 2 := fp479.at (by decide)
          have tM478_133_4 : M478 133 4 = M475 133 4 := fp479.at (by decide)
          have hq9 := wl_fr fp479 (by decide)
          have hL := hq9.2 hL
          have cM478 := hq9.1
          clear hq9
          refine z_if_eq (tgt := 107) F dX12_readThing_94 (by decide +kernel) (by omega) (fun c480 => ?_) (fun c480 => ?_)
          · refine z_iconst F dX12_readThing_107 ?_
            refine z_istore F dX12_readThing_108 (by decide) (ls' := [(4, ii 1), (3, ii v474), (2, ii v384), (1, ii v379), (0, .ref (ad 131))]) rfl ?_
            refine z_aload_n F dX12_readThing_110 rfl (q := 4) rfl ?_
            refine z_ldcS (j := 64) F dX12_readThing_111 rfl rfl rfl ?_
            refine z_eq (st' := [.ref (ad 1064), .ref (ad 131)]) rfl rfl rfl ?_
            refine zv_i (rest := []) F (kp_X12_took_131_1064 l M478 ⟨hI, hW⟩ (by omega)) cs_X12_130 (T := TX12) (N := 44) (ci := 12) rfl gs_131 (by decide) (by decide) rfl rfl rfl (Nat.le_of_ble_eq_true rfl) dX12_readThing_113 (fun v481 M482 rv481 hI p483 => ?_)
            obtain ⟨hI, hW⟩ := hI
            obtain ⟨⟨av481, bv481⟩, fp483, xp483⟩ := p483
            have hF := hF.call fp483 (by decide)
            have tM482_133_6 : M482 133 6 = M478 133 6 := fp483.at (by decide)
            have tM482_133_1 : M482 133 1 = M478 133 1 := fp483.at (by decide)
            have tM482_133_2 : M482 133 2 = M478 133 2 := fp483.at (by decide)
            have tM482_133_4 : M482 133 4 = M478 133 4 := fp483.at (by decide)
            have hq9 := wl_fr fp483 (by decide)
            have hL := hq9.2 hL
            have cM482 := hq9.1
            clear hq9
            refine z_istore F dX12_readThing_116 (by decide) (ls' := [(5, ii v481), (4, ii 1), (3, ii v474), (2, ii v384), (1, ii v379), (0, .ref (ad 131))]) rfl ?_
            refine z_aload_n F dX12_readThing_118 rfl (q := 5) rfl ?_
            refine gf_X12_108 F hI gs_131 rfl bd_131_12 dX12_readThing_119 (fun v484 ev484 av484 bv484 => ?_)
            refine z_if_eq (tgt := 126) F dX12_readThing_122 (by decide +kernel) (by omega) (fun c485 => ?_) (fun c485 => ?_)
            · refine z_aload_n F dX12_readThing_126 rfl (q := 5) rfl ?_
              refine rf_X12_13 F gs_131 rfl dX12_readThing_127 ?_
              refine z_iconst F dX12_readThing_130 ?_
              refine z_iald F hI gs_133 (by omega) (by omega) (by decide) (show Bd 133 2 = (0, 8) from rfl) dX12_readThing_131 (fun v486 (ev486 : v486 = M482 133 2) av486 bv486 => ?_)
              have k487 : 0 ≤ v486 ∧ v486 ≤ 7 := by omega
              refine z_istore F dX12_readThing_132 (by decide) (ls' := [(6, ii v486), (5, ii v481), (4, ii 1), (3, ii v474), (2, ii v384), (1, ii v379), (0, .ref (ad 131))]) rfl ?_
              refine z_aload_n F dX12_readThing_134 rfl (q := 6) rfl ?_
              refine rf_X12_13 F gs_131 rfl dX12_readThing_135 ?_
              refine z_bipush F dX12_readThing_138 (by decide +kernel) ?_
              refine z_iload F dX12_readThing_140 (q := 0) rfl ?_
              refine z_iadd F dX12_readThing_142 ?_
              refine z_iload_n F dX12_readThing_143 rfl (q := 5) rfl ?_
              refine z_iast F hI gs_133 (by omega) (by omega) (by decide) (bd_133.trans (kn_at (by omega) (by omega))) dX12_readThing_144 (by omega) (by omega) (fun M489 hI sf488 f488 => ?_)
              have tM489_131_7 : M489 131 7 = M482 131 7 := f488 131 7 (fun q => absurd q.1 (by decide))
              have tM489_131_8 : M489 131 8 = M482 131 8 := f488 131 8 (fun q => absurd q.1 (by decide))
              have tM489_131_9 : M489 131 9 = M482 131 9 := f488 131 9 (fun q => absurd q.1 (by decide))
              have tM489_131_10 : M489 131 10 = M482 131 10 := f488 131 10 (fun q => absurd q.1 (by decide))
              have tM489_131_12 : M489 131 12 = M482 131 12 := f488 131 12 (fun q => absurd q.1 (by decide))
              have tM489_131_16 : M489 131 16 = M482 131 16 := f488 131 16 (fun q => absurd q.1 (by decide))
              have tM489_133_6 : M489 133 6 = M482 133 6 := f488 133 6 (fun q => by have := q.2; omega)
              have tM489_133_1 : M489 133 1 = M482 133 1 := f488 133 1 (fun q => by have := q.2; omega)
              have tM489_133_2 : M489 133 2 = M482 133 2 := f488 133 2 (fun q => by have := q.2; omega)
              have tM489_133_4 : M489 133 4 = M482 133 4 := f488 133 4 (fun q => by have := q.2; omega)
              have hq9 := wl_wr f488 (by omega)
              have hL := hq9.2 hL
              have cM489 := hq9.1
              clear hq9
              have hF := hF.wr f488 (by decide) (by decide)
              have hW : WFk M489 := hW.site f488 (by decide)
              refine z_aload_n F dX12_readThing_145 rfl (q := 6) rfl ?_
              refine rf_X12_13 F gs_131 rfl dX12_readThing_146 ?_
              refine z_bipush F dX12_readThing_149 (by decide +kernel) ?_
              refine z_iload F dX12_readThing_151 (q := 0) rfl ?_
              refine z_iadd F dX12_readThing_153 ?_
              refine z_iload_n F dX12_readThing_154 rfl (q := 4) rfl ?_
              refine z_iast F hI gs_133 (by omega) (by omega) (by decide) (bd_133.trans (kn_any (by omega) (by omega))) dX12_readThing_155 (by omega) (by omega) (fun M491 hI sf490 f490 => ?_)
              have tM491_131_7 : M491 131 7 = M489 131 7 := f490 131 7 (fun q => absurd q.1 (by decide))
              have tM491_131_8 : M491 131 8 = M489 131 8 := f490 131 8 (fun q => absurd q.1 (by decide))
              have tM491_131_9 : M491 131 9 = M489 131 9 := f490 131 9 (fun q => absurd q.1 (by decide))
              have tM491_131_10 : M491 131 10 = M489 131 10 := f490 131 10 (fun q => absurd q.1 (by decide))
              have tM491_131_12 : M491 131 12 = M489 131 12 := f490 131 12 (fun q => absurd q.1 (by decide))
              have tM491_131_16 : M491 131 16 = M489 131 16 := f490 131 16 (fun q => absurd q.1 (by decide))
              have tM491_133_6 : M491 133 6 = M489 133 6 := f490 133 6 (fun q => by have := q.2; omega)
              have tM491_133_1 : M491 133 1 = M489 133 1 := f490 133 1 (fun q => by have := q.2; omega)
              have tM491_133_2 : M491 133 2 = M489 133 2 := f490 133 2 (fun q => by have := q.2; omega)
              have tM491_133_4 : M491 133 4 = M489 133 4 := f490 133 4 (fun q => by have := q.2; omega)
              have hq9 := wl_wr f490 (by omega)
              have hL := hq9.2 hL
              have cM491 := hq9.1
              clear hq9
              have hF := hF.wr f490 (by decide) (by decide)
              have hW : WFk M491 := hW.site f490 (by decide)
              refine z_aload_n F dX12_readThing_156 rfl (q := 6) rfl ?_
              refine rf_X12_13 F gs_131 rfl dX12_readThing_157 ?_
              refine z_bipush F dX12_readThing_160 (by decide +kernel) ?_
              refine z_iload F dX12_readThing_162 (q := 0) rfl ?_
              refine z_iadd F dX12_readThing_164 ?_
              refine z_iload_n F dX12_readThing_165 rfl (q := 3) rfl ?_
              refine z_iast F hI gs_133 (by omega) (by omega) (by decide) (bd_133.trans (kn_any (by omega) (by omega))) dX12_readThing_166 (by omega) (by omega) (fun M493 hI sf492 f492 => ?_)
              have tM493_131_7 : M493 131 7 = M491 131 7 := f492 131 7 (fun q => absurd q.1 (by decide))
              have tM493_131_8 : M493 131 8 = M491 131 8 := f492 131 8 (fun q => absurd q.1 (by decide))
              have tM493_131_9 : M493 131 9 = M491 131 9 := f492 131 9 (fun q => absurd q.1 (by decide))
              have tM493_131_10 : M493 131 10 = M491 131 10 := f492 131 10 (fun q => absurd q.1 (by decide))
              have tM493_131_12 : M493 131 12 = M491 131 12 := f492 131 12 (fun q => absurd q.1 (by decide))
              have tM493_131_16 : M493 131 16 = M491 131 16 := f492 131 16 (fun q => absurd q.1 (by decide))
              have tM493_133_6 : M493 133 6 = M491 133 6 := f492 133 6 (fun q => by have := q.2; omega)
              have tM493_133_1 : M493 133 1 = M491 133 1 := f492 133 1 (fun q => by have := q.2; omega)
              have tM493_133_2 : M493 133 2 = M491 133 2 := f492 133 2 (fun q => by have := q.2; omega)
              have tM493_133_4 : M493 133 4 = M491 133 4 := f492 133 4 (fun q => by have := q.2; omega)
              have hq9 := wl_wr f492 (by omega)
              have hL := hq9.2 hL
              have cM493 := hq9.1
              clear hq9
              have hF := hF.wr f492 (by decide) (by decide)
              have hW : WFk M493 := hW.site f492 (by decide)
              refine z_aload_n F dX12_readThing_167 rfl (q := 6) rfl ?_
              refine rf_X12_13 F gs_131 rfl dX12_readThing_168 ?_
              refine z_bipush F dX12_readThing_171 (by decide +kernel) ?_
              refine z_iload F dX12_readThing_173 (q := 0) rfl ?_
              refine z_iadd F dX12_readThing_175 ?_
              refine z_iload F dX12_readThing_176 (q := 2) rfl ?_
              refine z_iast F hI gs_133 (by omega) (by omega) (by decide) (bd_133.trans (kn_any (by omega) (by omega))) dX12_readThing_178 (by omega) (by omega) (fun M495 hI sf494 f494 => ?_)
              have tM495_131_7 : M495 131 7 = M493 131 7 := f494 131 7 (fun q => absurd q.1 (by decide))
              have tM495_131_8 : M495 131 8 = M493 131 8 := f494 131 8 (fun q => absurd q.1 (by decide))
              have tM495_131_9 : M495 131 9 = M493 131 9 := f494 131 9 (fun q => absurd q.1 (by decide))
              have tM495_131_10 : M495 131 10 = M493 131 10 := f494 131 10 (fun q => absurd q.1 (by decide))
              have tM495_131_12 : M495 131 12 = M493 131 12 := f494 131 12 (fun q => absurd q.1 (by decide))
              have tM495_131_16 : M495 131 16 = M493 131 16 := f494 131 16 (fun q => absurd q.1 (by decide))
              have tM495_133_6 : M495 133 6 = M493 133 6 := f494 133 6 (fun q => by have := q.2; omega)
              have tM495_133_1 : M495 133 1 = M493 133 1 := f494 133 1 (fun q => by have := q.2; omega)
              have tM495_133_2 : M495 133 2 = M493 133 2 := f494 133 2 (fun q => by have := q.2; omega)
              have tM495_133_4 : M495 133 4 = M493 133 4 := f494 133 4 (fun q => by have := q.2; omega)
              have hq9 := wl_wr f494 (by omega)
              have hL := hq9.2 hL
              have cM495 := hq9.1
              clear hq9
              have hF := hF.wr f494 (by decide) (by decide)
              have hW : WFk M495 := hW.site f494 (by decide)
              refine z_aload_n F dX12_readThing_179 rfl (q := 6) rfl ?_
              refine rf_X12_13 F gs_131 rfl dX12_readThing_180 ?_
              refine z_bipush F dX12_readThing_183 (by decide +kernel) ?_
              refine z_iload F dX12_readThing_185 (q := 0) rfl ?_
              refine z_iadd F dX12_readThing_187 ?_
              refine z_iload F dX12_readThing_188 (q := 1) rfl ?_
              refine z_if_eq (tgt := 197) F dX12_readThing_190 (by decide +kernel) (by omega) (fun c496 => ?_) (fun c496 => ?_)
              · refine z_iconst F dX12_readThing_197 ?_
                refine z_iast F hI gs_133 (by omega) (by omega) (by decide) (bd_133.trans (kn_any (by omega) (by omega))) dX12_readThing_198 (by omega) (by omega) (fun M498 hI sf497 f497 => ?_)
                have tM498_131_7 : M498 131 7 = M495 131 7 := f497 131 7 (fun q => absurd q.1 (by decide))
                have tM498_131_8 : M498 131 8 = M495 131 8 := f497 131 8 (fun q => absurd q.1 (by decide))
                have tM498_131_9 : M498 131 9 = M495 131 9 := f497 131 9 (fun q => absurd q.1 (by decide))
                have tM498_131_10 : M498 131 10 = M495 131 10 := f497 131 10 (fun q => absurd q.1 (by decide))
                have tM498_131_12 : M498 131 12 = M495 131 12 := f497 131 12 (fun q => absurd q.1 (by decide))
                have tM498_131_16 : M498 131 16 = M495 131 16 := f497 131 16 (fun q => absurd q.1 (by decide))
                have tM498_133_6 : M498 133 6 = M495 133 6 := f497 133 6 (fun q => by have := q.2; omega)
                have tM498_133_1 : M498 133 1 = M495 133 1 := f497 133 1 (fun q => by have := q.2; omega)
                have tM498_133_2 : M498 133 2 = M495 133 2 := f497 133 2 (fun q => by have := q.2; omega)
                have tM498_133_4 : M498 133 4 = M495 133 4 := f497 133 4 (fun q => by have := q.2; omega)
                have hq9 := wl_wr f497 (by omega)
                have hL := hq9.2 hL
                have cM498 := hq9.1
                clear hq9
                have hF := hF.wr f497 (by decide) (by decide)
                have hW : WFk M498 := hW.site f497 (by decide)
                refine z_aload_n F dX12_readThing_199 rfl (q := 6) rfl ?_
                refine rf_X12_13 F gs_131 rfl dX12_readThing_200 ?_
                refine z_iconst F dX12_readThing_203 ?_
                refine z_dup2 F dX12_readThing_204 rfl rfl ?_
                refine z_iald F hI gs_133 (by omega) (by omega) (by decide) (show Bd 133 2 = (0, 8) from rfl) dX12_readThing_205 (fun v499 (ev499 : v499 = M498 133 2) av499 bv499 => ?_)
                have q500 : v486 = M489 133 2 := ev486.trans (f488 133 2 (fun q => by omega)).symm
                have q501 : v486 = M491 133 2 := q500.trans (f490 133 2 (fun q => by omega)).symm
                have q502 : v486 = M493 133 2 := q501.trans (f492 133 2 (fun q => by omega)).symm
                have q503 : v486 = M495 133 2 := q502.trans (f494 133 2 (fun q => by omega)).symm
                have q504 : v486 = M498 133 2 := q503.trans (f497 133 2 (fun q => by omega)).symm
                have zv499 : v486 = v499 := q504.trans ev499.symm
                subst zv499
                refine z_iconst F dX12_readThing_206 ?_
                refine z_iadd F dX12_readThing_207 ?_
                refine z_nm (fun v506 ev506 => ?_)
                refine z_iast F hI gs_133 (by omega) (by omega) (by decide) (show Bd 133 2 = (0, 8) from rfl) dX12_readThing_208 (by omega) (by omega) (fun M507 hI sf505 f505 => ?_)
                have tM507_131_7 : M507 131 7 = M498 131 7 := f505 131 7 (fun q => absurd q.1 (by decide))
                have tM507_131_8 : M507 131 8 = M498 131 8 := f505 131 8 (fun q => absurd q.1 (by decide))
                have tM507_131_9 : M507 131 9 = M498 131 9 := f505 131 9 (fun q => absurd q.1 (by decide))
                have tM507_131_10 : M507 131 10 = M498 131 10 := f505 131 10 (fun q => absurd q.1 (by decide))
                have tM507_131_12 : M507 131 12 = M498 131 12 := f505 131 12 (fun q => absurd q.1 (by decide))
                have tM507_131_16 : M507 131 16 = M498 131 16 := f505 131 16 (fun q => absurd q.1 (by decide))
                have tM507_133_6 : M507 133 6 = M498 133 6 := f505 133 6 (fun q => absurd q.2 (by decide))
                have tM507_133_1 : M507 133 1 = M498 133 1 := f505 133 1 (fun q => absurd q.2 (by decide))
                have tM507_133_4 : M507 133 4 = M498 133 4 := f505 133 4 (fun q => absurd q.2 (by decide))
                have hq9 := wl_wr f505 (by omega)
                have hL := hq9.2 hL
                have cM507 := hq9.1
                clear hq9
                have hF := hF.wr f505 (by decide) (by decide)
                have hW : WFk M507 := hW.site f505 (by decide)
                have sf505 : M507 133 2 = v506 := sf505
                exact hret _ 209 _ ⟨hI, hW⟩ ⟨hF, ⟨hL, by omega⟩⟩ dX12_readThing_209
              · refine z_iconst F dX12_readThing_193 ?_
                refine z_goto (tgt := 198) F dX12_readThing_194 (by decide +kernel) ?_
                refine z_iast F hI gs_133 (by omega) (by omega) (by decide) (bd_133.trans (kn_any (by omega) (by omega))) dX12_readThing_198 (by omega) (by omega) (fun M509 hI sf508 f508 => ?_)
                have tM509_131_7 : M509 131 7 = M495 131 7 := f508 131 7 (fun q => absurd q.1 (by decide))
                have tM509_131_8 : M509 131 8 = M495 131 8 := f508 131 8 (fun q => absurd q.1 (by decide))
                have tM509_131_9 : M509 131 9 = M495 131 9 := f508 131 9 (fun q => absurd q.1 (by decide))
                have tM509_131_10 : M509 131 10 = M495 131 10 := f508 131 10 (fun q => absurd q.1 (by decide))
                have tM509_131_12 : M509 131 12 = M495 131 12 := f508 131 12 (fun q => absurd q.1 (by decide))
                have tM509_131_16 : M509 131 16 = M495 131 16 := f508 131 16 (fun q => absurd q.1 (by decide))
                have tM509_133_6 : M509 133 6 = M495 133 6 := f508 133 6 (fun q => by have := q.2; omega)
                have tM509_133_1 : M509 133 1 = M495 133 1 := f508 133 1 (fun q => by have := q.2; omega)
                have tM509_133_2 : M509 133 2 = M495 133 2 := f508 133 2 (fun q => by have := q.2; omega)
                have tM509_133_4 : M509 133 4 = M495 133 4 := f508 133 4 (fun q => by have := q.2; omega)
                have hq9 := wl_wr f508 (by omega)
                have hL := hq9.2 hL
                have cM509 := hq9.1
                clear hq9
                have hF := hF.wr f508 (by decide) (by decide)
                have hW : WFk M509 := hW.site f508 (by decide)
                refine z_aload_n F dX12_readThing_199 rfl (q := 6) rfl ?_
                refine rf_X12_13 F gs_131 rfl dX12_readThing_200 ?_
                refine z_iconst F dX12_readThing_203 ?_
                refine z_dup2 F dX12_readThing_204 rfl rfl ?_
                refine z_iald F hI gs_133 (by omega) (by omega) (by decide) (show Bd 133 2 = (0, 8) from rfl) dX12_readThing_205 (fun v510 (ev510 : v510 = M509 133 2) av510 bv510 => ?_)
                have q511 : v486 = M489 133 2 := ev486.trans (f488 133 2 (fun q => by omega)).symm
                have q512 : v486 = M491 133 2 := q511.trans (f490 133 2 (fun q => by omega)).symm
                have q513 : v486 = M493 133 2 := q512.trans (f492 133 2 (fun q => by omega)).symm
                have q514 : v486 = M495 133 2 := q513.trans (f494 133 2 (fun q => by omega)).symm
                have q515 : v486 = M509 133 2 := q514.trans (f508 133 2 (fun q => by omega)).symm
                have zv510 : v486 = v510 := q515.trans ev510.symm
                subst zv510
                refine z_iconst F dX12_readThing_206 ?_
                refine z_iadd F dX12_readThing_207 ?_
                refine z_nm (fun v517 ev517 => ?_)
                refine z_iast F hI gs_133 (by omega) (by omega) (by decide) (show Bd 133 2 = (0, 8) from rfl) dX12_readThing_208 (by omega) (by omega) (fun M518 hI sf516 f516 => ?_)
                have tM518_131_7 : M518 131 7 = M509 131 7 := f516 131 7 (fun q => absurd q.1 (by decide))
                have tM518_131_8 : M518 131 8 = M509 131 8 := f516 131 8 (fun q => absurd q.1 (by decide))
                have tM518_131_9 : M518 131 9 = M509 131 9 := f516 131 9 (fun q => absurd q.1 (by decide))
                have tM518_131_10 : M518 131 10 = M509 131 10 := f516 131 10 (fun q => absurd q.1 (by decide))
                have tM518_131_12 : M518 131 12 = M509 131 12 := f516 131 12 (fun q => absurd q.1 (by decide))
                have tM518_131_16 : M518 131 16 = M509 131 16 := f516 131 16 (fun q => absurd q.1 (by decide))
                have tM518_133_6 : M518 133 6 = M509 133 6 := f516 133 6 (fun q => absurd q.2 (by decide))
                have tM518_133_1 : M518 133 1 = M509 133 1 := f516 133 1 (fun q => absurd q.2 (by decide))
                have tM518_133_4 : M518 133 4 = M509 133 4 := f516 133 4 (fun q => absurd q.2 (by decide))
                have hq9 := wl_wr f516 (by omega)
                have hL := hq9.2 hL
                have cM518 := hq9.1
                clear hq9
                have hF := hF.wr f516 (by decide) (by decide)
                have hW : WFk M518 := hW.site f516 (by decide)
                have sf516 : M518 133 2 = v517 := sf516
                exact hret _ 209 _ ⟨hI, hW⟩ ⟨hF, ⟨hL, by omega⟩⟩ dX12_readThing_209
            · exact hret _ 125 _ ⟨hI, hW⟩ ⟨hF, ⟨hL, by omega⟩⟩ dX12_readThing_125
          · refine z_aload_n F dX12_readThing_97 rfl (q := 3) rfl ?_
            refine z_iconst F dX12_readThing_98 ?_
            refine z_bipush F dX12_readThing_99 (by decide +kernel) ?_
            refine zv_i (rest := []) F (kp_X12_number l M478 ⟨hI, hW⟩ 1 (by omega) (by omega) 9 (by omega) (by omega) (by omega)) cs_X12_199 (T := TX12) (N := 44) (ci := 12) rfl gs_131 (by decide) (by decide) rfl rfl rfl (Nat.le_of_ble_eq_true rfl) dX12_readThing_101 (fun v519 M520 rv519 hI p521 => ?_)
            obtain ⟨hI, hW⟩ := hI
            obtain ⟨⟨av519, bv519⟩, fp521, xp521⟩ := p521
            have hF := hF.call fp521 (by decide)
            have tM520_133_6 : M520 133 6 = M478 133 6 := fp521.at (by decide)
            have tM520_133_1 : M520 133 1 = M478 133 1 := fp521.at (by decide)
            have tM520_133_2 : M520 133 2 = M478 133 2 := fp521.at (by decide)
            have tM520_133_4 : M520 133 4 = M478 133 4 := fp521.at (by decide)
            have hq9 := wl_fr fp521 (by decide)
            have hL := hq9.2 hL
            have cM520 := hq9.1
            clear hq9
            have hkv519 : 1 ≤ v519 ∧ v519 ≤ 9 := by omega
            refine z_goto (tgt := 108) F dX12_readThing_104 (by decide +kernel) ?_
            refine z_istore F dX12_readThing_108 (by decide) (ls' := [(4, ii v519), (3, ii v474), (2, ii v384), (1, ii v379), (0, .ref (ad 131))]) rfl ?_
            refine z_aload_n F dX12_readThing_110 rfl (q := 4) rfl ?_
            refine z_ldcS (j := 64) F dX12_readThing_111 rfl rfl rfl ?_
            refine z_eq (st' := [.ref (ad 1064), .ref (ad 131)]) rfl rfl rfl ?_
            refine zv_i (rest := []) F (kp_X12_took_131_1064 l M520 ⟨hI, hW⟩ (by omega)) cs_X12_130 (T := TX12) (N := 44) (ci := 12) rfl gs_131 (by decide) (by decide) rfl rfl rfl (Nat.le_of_ble_eq_true rfl) dX12_readThing_113 (fun v522 M523 rv522 hI p524 => ?_)
            obtain ⟨hI, hW⟩ := hI
            obtain ⟨⟨av522, bv522⟩, fp524, xp524⟩ := p524
            have hF := hF.call fp524 (by decide)
            have tM523_133_6 : M523 133 6 = M520 133 6 := fp524.at (by decide)
            have tM523_133_1 : M523 133 1 = M520 133 1 := fp524.at (by decide)
            have tM523_133_2 : M523 133 2 = M520 133 2 := fp524.at (by decide)
            have tM523_133_4 : M523 133 4 = M520 133 4 := fp524.at (by decide)
            have hq9 := wl_fr fp524 (by decide)
            have hL := hq9.2 hL
            have cM523 := hq9.1
            clear hq9
            refine z_istore F dX12_readThing_116 (by decide) (ls' := [(5, ii v522), (4, ii v519), (3, ii v474), (2, ii v384), (1, ii v379), (0, .ref (ad 131))]) rfl ?_
            refine z_aload_n F dX12_readThing_118 rfl (q := 5) rfl ?_
            refine gf_X12_108 F hI gs_131 rfl bd_131_12 dX12_readThing_119 (fun v525 ev525 av525 bv525 => ?_)
            refine z_if_eq (tgt := 126) F dX12_readThing_122 (by decide +kernel) (by omega) (fun c526 => ?_) (fun c526 => ?_)
            · refine z_aload_n F dX12_readThing_126 rfl (q := 5) rfl ?_
              refine rf_X12_13 F gs_131 rfl dX12_readThing_127 ?_
              refine z_iconst F dX12_readThing_130 ?_
              refine z_iald F hI gs_133 (by omega) (by omega) (by decide) (show Bd 133 2 = (0, 8) from rfl) dX12_readThing_131 (fun v527 (ev527 : v527 = M523 133 2) av527 bv527 => ?_)
              have k528 : 0 ≤ v527 ∧ v527 ≤ 7 := by omega
              refine z_istore F dX12_readThing_132 (by decide) (ls' := [(6, ii v527), (5, ii v522), (4, ii v519), (3, ii v474), (2, ii v384), (1, ii v379), (0, .ref (ad 131))]) rfl ?_
              refine z_aload_n F dX12_readThing_134 rfl (q := 6) rfl ?_
              refine rf_X12_13 F gs_131 rfl dX12_readThing_135 ?_
              refine z_bipush F dX12_readThing_138 (by decide +kernel) ?_
              refine z_iload F dX12_readThing_140 (q := 0) rfl ?_
              refine z_iadd F dX12_readThing_142 ?_
              refine z_iload_n F dX12_readThing_143 rfl (q := 5) rfl ?_
              refine z_iast F hI gs_133 (by omega) (by omega) (by decide) (bd_133.trans (kn_at (by omega) (by omega))) dX12_readThing_144 (by omega) (by omega) (fun M530 hI sf529 f529 => ?_)
              have tM530_131_7 : M530 131 7 = M523 131 7 := f529 131 7 (fun q => absurd q.1 (by decide))
              have tM530_131_8 : M530 131 8 = M523 131 8 := f529 131 8 (fun q => absurd q.1 (by decide))
              have tM530_131_9 : M530 131 9 = M523 131 9 := f529 131 9 (fun q => absurd q.1 (by decide))
              have tM530_131_10 : M530 131 10 = M523 131 10 := f529 131 10 (fun q => absurd q.1 (by decide))
              have tM530_131_12 : M530 131 12 = M523 131 12 := f529 131 12 (fun q => absurd q.1 (by decide))
              have tM530_131_16 : M530 131 16 = M523 131 16 := f529 131 16 (fun q => absurd q.1 (by decide))
              have tM530_133_6 : M530 133 6 = M523 133 6 := f529 133 6 (fun q => by have := q.2; omega)
              have tM530_133_1 : M530 133 1 = M523 133 1 := f529 133 1 (fun q => by have := q.2; omega)
              have tM530_133_2 : M530 133 2 = M523 133 2 := f529 133 2 (fun q => by have := q.2; omega)
              have tM530_133_4 : M530 133 4 = M523 133 4 := f529 133 4 (fun q => by have := q.2; omega)
              have hq9 := wl_wr f529 (by omega)
              have hL := hq9.2 hL
              have cM530 := hq9.1
              clear hq9
              have hF := hF.wr f529 (by decide) (by decide)
              have hW : WFk M530 := hW.site f529 (by decide)
              refine z_aload_n F dX12_readThing_145 rfl (q := 6) rfl ?_
              refine rf_X12_13 F gs_131 rfl dX12_readThing_146 ?_
              refine z_bipush F dX12_readThing_149 (by decide +kernel) ?_
              refine z_iload F dX12_readThing_151 (q := 0) rfl ?_
              refine z_iadd F dX12_readThing_153 ?_
              refine z_iload_n F dX12_readThing_154 rfl (q := 4) rfl ?_
              refine z_iast F hI gs_133 (by omega) (by omega) (by decide) (bd_133.trans (kn_any (by omega) (by omega))) dX12_readThing_155 (by omega) (by omega) (fun M532 hI sf531 f531 => ?_)
              have tM532_131_7 : M532 131 7 = M530 131 7 := f531 131 7 (fun q => absurd q.1 (by decide))
              have tM532_131_8 : M532 131 8 = M530 131 8 := f531 131 8 (fun q => absurd q.1 (by decide))
              have tM532_131_9 : M532 131 9 = M530 131 9 := f531 131 9 (fun q => absurd q.1 (by decide))
              have tM532_131_10 : M532 131 10 = M530 131 10 := f531 131 10 (fun q => absurd q.1 (by decide))
              have tM532_131_12 : M532 131 12 = M530 131 12 := f531 131 12 (fun q => absurd q.1 (by decide))
              have tM532_131_16 : M532 131 16 = M530 131 16 := f531 131 16 (fun q => absurd q.1 (by decide))
              have tM532_133_6 : M532 133 6 = M530 133 6 := f531 133 6 (fun q => by have := q.2; omega)
              have tM532_133_1 : M532 133 1 = M530 133 1 := f531 133 1 (fun q => by have := q.2; omega)
              have tM532_133_2 : M532 133 2 = M530 133 2 := f531 133 2 (fun q => by have := q.2; omega)
              have tM532_133_4 : M532 133 4 = M530 133 4 := f531 133 4 (fun q => by have := q.2; omega)
              have hq9 := wl_wr f531 (by omega)
              have hL := hq9.2 hL
              have cM532 := hq9.1
              clear hq9
              have hF := hF.wr f531 (by decide) (by decide)
              have hW : WFk M532 := hW.site f531 (by decide)
              refine z_aload_n F dX12_readThing_156 rfl (q := 6) rfl ?_
              refine rf_X12_13 F gs_131 rfl dX12_readThing_157 ?_
              refine z_bipush F dX12_readThing_160 (by decide +kernel) ?_
              refine z_iload F dX12_readThing_162 (q := 0) rfl ?_
              refine z_iadd F dX12_readThing_164 ?_
              refine z_iload_n F dX12_readThing_165 rfl (q := 3) rfl ?_
              refine z_iast F hI gs_133 (by omega) (by omega) (by decide) (bd_133.trans (kn_any (by omega) (by omega))) dX12_readThing_166 (by omega) (by omega) (fun M534 hI sf533 f533 => ?_)
              have tM534_131_7 : M534 131 7 = M532 131 7 := f533 131 7 (fun q => absurd q.1 (by decide))
              have tM534_131_8 : M534 131 8 = M532 131 8 := f533 131 8 (fun q => absurd q.1 (by decide))
              have tM534_131_9 : M534 131 9 = M532 131 9 := f533 131 9 (fun q => absurd q.1 (by decide))
              have tM534_131_10 : M534 131 10 = M532 131 10 := f533 131 10 (fun q => absurd q.1 (by decide))
              have tM534_131_12 : M534 131 12 = M532 131 12 := f533 131 12 (fun q => absurd q.1 (by decide))
              have tM534_131_16 : M534 131 16 = M532 131 16 := f533 131 16 (fun q => absurd q.1 (by decide))
              have tM534_133_6 : M534 133 6 = M532 133 6 := f533 133 6 (fun q => by have := q.2; omega)
              have tM534_133_1 : M534 133 1 = M532 133 1 := f533 133 1 (fun q => by have := q.2; omega)
              have tM534_133_2 : M534 133 2 = M532 133 2 := f533 133 2 (fun q => by have := q.2; omega)
              have tM534_133_4 : M534 133 4 = M532 133 4 := f533 133 4 (fun q => by have := q.2; omega)
              have hq9 := wl_wr f533 (by omega)
              have hL := hq9.2 hL
              have cM534 := hq9.1
              clear hq9
              have hF := hF.wr f533 (by decide) (by decide)
              have hW : WFk M534 := hW.site f533 (by decide)
              refine z_aload_n F dX12_readThing_167 rfl (q := 6) rfl ?_
              refine rf_X12_13 F gs_131 rfl dX12_readThing_168 ?_
              refine z_bipush F dX12_readThing_171 (by decide +kernel) ?_
              refine z_iload F dX12_readThing_173 (q := 0) rfl ?_
              refine z_iadd F dX12_readThing_175 ?_
              refine z_iload F dX12_readThing_176 (q := 2) rfl ?_
              refine z_iast F hI gs_133 (by omega) (by omega) (by decide) (bd_133.trans (kn_any (by omega) (by omega))) dX12_readThing_178 (by omega) (by omega) (fun M536 hI sf535 f535 => ?_)
              have tM536_131_7 : M536 131 7 = M534 131 7 := f535 131 7 (fun q => absurd q.1 (by decide))
              have tM536_131_8 : M536 131 8 = M534 131 8 := f535 131 8 (fun q => absurd q.1 (by decide))
              have tM536_131_9 : M536 131 9 = M534 131 9 := f535 131 9 (fun q => absurd q.1 (by decide))
              have tM536_131_10 : M536 131 10 = M534 131 10 := f535 131 10 (fun q => absurd q.1 (by decide))
              have tM536_131_12 : M536 131 12 = M534 131 12 := f535 131 12 (fun q => absurd q.1 (by decide))
              have tM536_131_16 : M536 131 16 = M534 131 16 := f535 131 16 (fun q => absurd q.1 (by decide))
              have tM536_133_6 : M536 133 6 = M534 133 6 := f535 133 6 (fun q => by have := q.2; omega)
              have tM536_133_1 : M536 133 1 = M534 133 1 := f535 133 1 (fun q => by have := q.2; omega)
              have tM536_133_2 : M536 133 2 = M534 133 2 := f535 133 2 (fun q => by have := q.2; omega)
              have tM536_133_4 : M536 133 4 = M534 133 4 := f535 133 4 (fun q => by have := q.2; omega)
              have hq9 := wl_wr f535 (by omega)
              have hL := hq9.2 hL
              have cM536 := hq9.1
              clear hq9
              have hF := hF.wr f535 (by decide) (by decide)
              have hW : WFk M536 := hW.site f535 (by decide)
              refine z_aload_n F dX12_readThing_179 rfl (q := 6) rfl ?_
              refine rf_X12_13 F gs_131 rfl dX12_readThing_180 ?_
              refine z_bipush F dX12_readThing_183 (by decide +kernel) ?_
              refine z_iload F dX12_readThing_185 (q := 0) rfl ?_
              refine z_iadd F dX12_readThing_187 ?_
              refine z_iload F dX12_readThing_188 (q := 1) rfl ?_
              refine z_if_eq (tgt := 197) F dX12_readThing_190 (by decide +kernel) (by omega) (fun c537 => ?_) (fun c537 => ?_)
              · refine z_iconst F dX12_readThing_197 ?_
                refine z_iast F hI gs_133 (by omega) (by omega) (by decide) (bd_133.trans (kn_any (by omega) (by omega))) dX12_readThing_198 (by omega) (by omega) (fun M539 hI sf538 f538 => ?_)
                have tM539_131_7 : M539 131 7 = M536 131 7 := f538 131 7 (fun q => absurd q.1 (by decide))
                have tM539_131_8 : M539 131 8 = M536 131 8 := f538 131 8 (fun q => absurd q.1 (by decide))
                have tM539_131_9 : M539 131 9 = M536 131 9 := f538 131 9 (fun q => absurd q.1 (by decide))
                have tM539_131_10 : M539 131 10 = M536 131 10 := f538 131 10 (fun q => absurd q.1 (by decide))
                have tM539_131_12 : M539 131 12 = M536 131 12 := f538 131 12 (fun q => absurd q.1 (by decide))
                have tM539_131_16 : M539 131 16 = M536 131 16 := f538 131 16 (fun q => absurd q.1 (by decide))
                have tM539_133_6 : M539 133 6 = M536 133 6 := f538 133 6 (fun q => by have := q.2; omega)
                have tM539_133_1 : M539 133 1 = M536 133 1 := f538 133 1 (fun q => by have := q.2; omega)
                have tM539_133_2 : M539 133 2 = M536 133 2 := f538 133 2 (fun q => by have := q.2; omega)
                have tM539_133_4 : M539 133 4 = M536 133 4 := f538 133 4 (fun q => by have := q.2; omega)
                have hq9 := wl_wr f538 (by omega)
                have hL := hq9.2 hL
                have cM539 := hq9.1
                clear hq9
                have hF := hF.wr f538 (by decide) (by decide)
                have hW : WFk M539 := hW.site f538 (by decide)
                refine z_aload_n F dX12_readThing_199 rfl (q := 6) rfl ?_
                refine rf_X12_13 F gs_131 rfl dX12_readThing_200 ?_
                refine z_iconst F dX12_readThing_203 ?_
                refine z_dup2 F dX12_readThing_204 rfl rfl ?_
                refine z_iald F hI gs_133 (by omega) (by omega) (by decide) (show Bd 133 2 = (0, 8) from rfl) dX12_readThing_205 (fun v540 (ev540 : v540 = M539 133 2) av540 bv540 => ?_)
                have q541 : v527 = M530 133 2 := ev527.trans (f529 133 2 (fun q => by omega)).symm
                have q542 : v527 = M532 133 2 := q541.trans (f531 133 2 (fun q => by omega)).symm
                have q543 : v527 = M534 133 2 := q542.trans (f533 133 2 (fun q => by omega)).symm
                have q544 : v527 = M536 133 2 := q543.trans (f535 133 2 (fun q => by omega)).symm
                have q545 : v527 = M539 133 2 := q544.trans (f538 133 2 (fun q => by omega)).symm
                have zv540 : v527 = v540 := q545.trans ev540.symm
                subst zv540
                refine z_iconst F dX12_readThing_206 ?_
                refine z_iadd F dX12_readThing_207 ?_
                refine z_nm (fun v547 ev547 => ?_)
                refine z_iast F hI gs_133 (by omega) (by omega) (by decide) (show Bd 133 2 = (0, 8) from rfl) dX12_readThing_208 (by omega) (by omega) (fun M548 hI sf546 f546 => ?_)
                have tM548_131_7 : M548 131 7 = M539 131 7 := f546 131 7 (fun q => absurd q.1 (by decide))
                have tM548_131_8 : M548 131 8 = M539 131 8 := f546 131 8 (fun q => absurd q.1 (by decide))
                have tM548_131_9 : M548 131 9 = M539 131 9 := f546 131 9 (fun q => absurd q.1 (by decide))
                have tM548_131_10 : M548 131 10 = M539 131 10 := f546 131 10 (fun q => absurd q.1 (by decide))
                have tM548_131_12 : M548 131 12 = M539 131 12 := f546 131 12 (fun q => absurd q.1 (by decide))
                have tM548_131_16 : M548 131 16 = M539 131 16 := f546 131 16 (fun q => absurd q.1 (by decide))
                have tM548_133_6 : M548 133 6 = M539 133 6 := f546 133 6 (fun q => absurd q.2 (by decide))
                have tM548_133_1 : M548 133 1 = M539 133 1 := f546 133 1 (fun q => absurd q.2 (by decide))
                have tM548_133_4 : M548 133 4 = M539 133 4 := f546 133 4 (fun q => absurd q.2 (by decide))
                have hq9 := wl_wr f546 (by omega)
                have hL := hq9.2 hL
                have cM548 := hq9.1
                clear hq9
                have hF := hF.wr f546 (by decide) (by decide)
                have hW : WFk M548 := hW.site f546 (by decide)
                have sf546 : M548 133 2 = v547 := sf546
                exact hret _ 209 _ ⟨hI, hW⟩ ⟨hF, ⟨hL, by omega⟩⟩ dX12_readThing_209
              · refine z_iconst F dX12_readThing_193 ?_
                refine z_goto (tgt := 198) F dX12_readThing_194 (by decide +kernel) ?_
                refine z_iast F hI gs_133 (by omega) (by omega) (by decide) (bd_133.trans (kn_any (by omega) (by omega))) dX12_readThing_198 (by omega) (by omega) (fun M550 hI sf549 f549 => ?_)
                have tM550_131_7 : M550 131 7 = M536 131 7 := f549 131 7 (fun q => absurd q.1 (by decide))
                have tM550_131_8 : M550 131 8 = M536 131 8 := f549 131 8 (fun q => absurd q.1 (by decide))
                have tM550_131_9 : M550 131 9 = M536 131 9 := f549 131 9 (fun q => absurd q.1 (by decide))
                have tM550_131_10 : M550 131 10 = M536 131 10 := f549 131 10 (fun q => absurd q.1 (by decide))
                have tM550_131_12 : M550 131 12 = M536 131 12 := f549 131 12 (fun q => absurd q.1 (by decide))
                have tM550_131_16 : M550 131 16 = M536 131 16 := f549 131 16 (fun q => absurd q.1 (by decide))
                have tM550_133_6 : M550 133 6 = M536 133 6 := f549 133 6 (fun q => by have := q.2; omega)
                have tM550_133_1 : M550 133 1 = M536 133 1 := f549 133 1 (fun q => by have := q.2; omega)
                have tM550_133_2 : M550 133 2 = M536 133 2 := f549 133 2 (fun q => by have := q.2; omega)
                have tM550_133_4 : M550 133 4 = M536 133 4 := f549 133 4 (fun q => by have := q.2; omega)
                have hq9 := wl_wr f549 (by omega)
                have hL := hq9.2 hL
                have cM550 := hq9.1
                clear hq9
                have hF := hF.wr f549 (by decide) (by decide)
                have hW : WFk M550 := hW.site f549 (by decide)
                refine z_aload_n F dX12_readThing_199 rfl (q := 6) rfl ?_
                refine rf_X12_13 F gs_131 rfl dX12_readThing_200 ?_
                refine z_iconst F dX12_readThing_203 ?_
                refine z_dup2 F dX12_readThing_204 rfl rfl ?_
                refine z_iald F hI gs_133 (by omega) (by omega) (by decide) (show Bd 133 2 = (0, 8) from rfl) dX12_readThing_205 (fun v551 (ev551 : v551 = M550 133 2) av551 bv551 => ?_)
                have q552 : v527 = M530 133 2 := ev527.trans (f529 133 2 (fun q => by omega)).symm
                have q553 : v527 = M532 133 2 := q552.trans (f531 133 2 (fun q => by omega)).symm
                have q554 : v527 = M534 133 2 := q553.trans (f533 133 2 (fun q => by omega)).symm
                have q555 : v527 = M536 133 2 := q554.trans (f535 133 2 (fun q => by omega)).symm
                have q556 : v527 = M550 133 2 := q555.trans (f549 133 2 (fun q => by omega)).symm
                have zv551 : v527 = v551 := q556.trans ev551.symm
                subst zv551
                refine z_iconst F dX12_readThing_206 ?_
                refine z_iadd F dX12_readThing_207 ?_
                refine z_nm (fun v558 ev558 => ?_)
                refine z_iast F hI gs_133 (by omega) (by omega) (by decide) (show Bd 133 2 = (0, 8) from rfl) dX12_readThing_208 (by omega) (by omega) (fun M559 hI sf557 f557 => ?_)
                have tM559_131_7 : M559 131 7 = M550 131 7 := f557 131 7 (fun q => absurd q.1 (by decide))
                have tM559_131_8 : M559 131 8 = M550 131 8 := f557 131 8 (fun q => absurd q.1 (by decide))
                have tM559_131_9 : M559 131 9 = M550 131 9 := f557 131 9 (fun q => absurd q.1 (by decide))
                have tM559_131_10 : M559 131 10 = M550 131 10 := f557 131 10 (fun q => absurd q.1 (by decide))
                have tM559_131_12 : M559 131 12 = M550 131 12 := f557 131 12 (fun q => absurd q.1 (by decide))
                have tM559_131_16 : M559 131 16 = M550 131 16 := f557 131 16 (fun q => absurd q.1 (by decide))
                have tM559_133_6 : M559 133 6 = M550 133 6 := f557 133 6 (fun q => absurd q.2 (by decide))
                have tM559_133_1 : M559 133 1 = M550 133 1 := f557 133 1 (fun q => absurd q.2 (by decide))
                have tM559_133_4 : M559 133 4 = M550 133 4 := f557 133 4 (fun q => absurd q.2 (by decide))
                have hq9 := wl_wr f557 (by omega)
                have hL := hq9.2 hL
                have cM559 := hq9.1
                clear hq9
                have hF := hF.wr f557 (by decide) (by decide)
                have hW : WFk M559 := hW.site f557 (by decide)
                have sf557 : M559 133 2 = v558 := sf557
                exact hret _ 209 _ ⟨hI, hW⟩ ⟨hF, ⟨hL, by omega⟩⟩ dX12_readThing_209
            · exact hret _ 125 _ ⟨hI, hW⟩ ⟨hF, ⟨hL, by omega⟩⟩ dX12_readThing_125
  · exact hret _ 10 _ ⟨hI, hW⟩ ⟨hF, ⟨hL, by omega⟩⟩ dX12_readThing_10
