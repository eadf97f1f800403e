theorem dX12_readTouch_0 : decode cX12_readTouch 0 = .ok (.aload_n 0, 1) := by decide +kernel
theorem dX12_readTouch_1 : decode cX12_readTouch 1 = .ok (.iconst 3, 1) := by decide +kernel
theorem dX12_readTouch_10 : decode cX12_readTouch 10 = .ok (.return_, 1) := by decide +kernel
theorem dX12_readTouch_100 : decode cX12_readTouch 100 = .ok (.aload_n 0, 1) := by decide +kernel
theorem dX12_readTouch_101 : decode cX12_readTouch 101 = .ok (.getfield 13, 3) := by decide +kernel
theorem dX12_readTouch_104 : decode cX12_readTouch 104 = .ok (.iconst 1, 1) := by decide +kernel
theorem dX12_readTouch_105 : decode cX12_readTouch 105 = .ok (.iaload, 1) := by decide +kernel
theorem dX12_readTouch_106 : decode cX12_readTouch 106 = .ok (.iconst 1, 1) := by decide +kernel
theorem dX12_readTouch_107 : decode cX12_readTouch 107 = .ok (.isub, 1) := by decide +kernel
theorem dX12_readTouch_108 : decode cX12_readTouch 108 = .ok (.invokevirtual 199, 3) := by decide +kernel
theorem dX12_readTouch_11 : decode cX12_readTouch 11 = .ok (.aload_n 0, 1) := by decide +kernel
theorem dX12_readTouch_111 : decode cX12_readTouch 111 = .ok (.istore_n 3, 1) := by decide +kernel
theorem dX12_readTouch_112 : decode cX12_readTouch 112 = .ok (.aload_n 0, 1) := by decide +kernel
theorem dX12_readTouch_113 : decode cX12_readTouch 113 = .ok (.ldc 194, 2) := by decide +kernel
theorem dX12_readTouch_115 : decode cX12_readTouch 115 = .ok (.invokevirtual 130, 3) := by decide +kernel
theorem dX12_readTouch_118 : decode cX12_readTouch 118 = .ok (.ifCond .eq 7, 3) := by decide +kernel
theorem dX12_readTouch_12 : decode cX12_readTouch 12 = .ok (.iconst 0, 1) := by decide +kernel
theorem dX12_readTouch_121 : decode cX12_readTouch 121 = .ok (.iconst 2, 1) := by decide +kernel
theorem dX12_readTouch_122 : decode cX12_readTouch 122 = .ok (.goto 4, 3) := by decide +kernel
theorem dX12_readTouch_125 : decode cX12_readTouch 125 = .ok (.iconst 1, 1) := by decide +kernel
theorem dX12_readTouch_126 : decode cX12_readTouch 126 = .ok (.istore 4, 2) := by decide +kernel
theorem dX12_readTouch_128 : decode cX12_readTouch 128 = .ok (.aload_n 0, 1) := by decide +kernel
theorem dX12_readTouch_129 : decode cX12_readTouch 129 = .ok (.getfield 108, 3) := by decide +kernel
theorem dX12_readTouch_13 : decode cX12_readTouch 13 = .ok (.aload_n 0, 1) := by decide +kernel
theorem dX12_readTouch_132 : decode cX12_readTouch 132 = .ok (.ifCond .eq 4, 3) := by decide +kernel
theorem dX12_readTouch_135 : decode cX12_readTouch 135 = .ok (.return_, 1) := by decide +kernel
theorem dX12_readTouch_136 : decode cX12_readTouch 136 = .ok (.aload_n 0, 1) := by decide +kernel
theorem dX12_readTouch_137 : decode cX12_readTouch 137 = .ok (.getfield 13, 3) := by decide +kernel
theorem dX12_readTouch_14 : decode cX12_readTouch 14 = .ok (.getfield 13, 3) := by decide +kernel
theorem dX12_readTouch_140 : decode cX12_readTouch 140 = .ok (.bipush 50, 2) := by decide +kernel
theorem dX12_readTouch_142 : decode cX12_readTouch 142 = .ok (.bipush 10, 2) := by decide +kernel
theorem dX12_readTouch_144 : decode cX12_readTouch 144 = .ok (.iload_n 1, 1) := by decide +kernel
theorem dX12_readTouch_145 : decode cX12_readTouch 145 = .ok (.imul, 1) := by decide +kernel
theorem dX12_readTouch_146 : decode cX12_readTouch 146 = .ok (.iadd, 1) := by decide +kernel
theorem dX12_readTouch_147 : decode cX12_readTouch 147 = .ok (.iload_n 3, 1) := by decide +kernel
theorem dX12_readTouch_148 : decode cX12_readTouch 148 = .ok (.iadd, 1) := by decide +kernel
theorem dX12_readTouch_149 : decode cX12_readTouch 149 = .ok (.iload 4, 2) := by decide +kernel
theorem dX12_readTouch_151 : decode cX12_readTouch 151 = .ok (.iastore, 1) := by decide +kernel
theorem dX12_readTouch_152 : decode cX12_readTouch 152 = .ok (.aload_n 0, 1) := by decide +kernel
theorem dX12_readTouch_153 : decode cX12_readTouch 153 = .ok (.getfield 13, 3) := by decide +kernel
theorem dX12_readTouch_156 : decode cX12_readTouch 156 = .ok (.bipush 50, 2) := by decide +kernel
theorem dX12_readTouch_158 : decode cX12_readTouch 158 = .ok (.bipush 10, 2) := by decide +kernel
theorem dX12_readTouch_160 : decode cX12_readTouch 160 = .ok (.iload_n 3, 1) := by decide +kernel
theorem dX12_readTouch_161 : decode cX12_readTouch 161 = .ok (.imul, 1) := by decide +kernel
theorem dX12_readTouch_162 : decode cX12_readTouch 162 = .ok (.iadd, 1) := by decide +kernel
theorem dX12_readTouch_163 : decode cX12_readTouch 163 = .ok (.iload_n 1, 1) := by decide +kernel
theorem dX12_readTouch_164 : decode cX12_readTouch 164 = .ok (.iadd, 1) := by decide +kernel
theorem dX12_readTouch_165 : decode cX12_readTouch 165 = .ok (.iload 4, 2) := by decide +kernel
theorem dX12_readTouch_167 : decode cX12_readTouch 167 = .ok (.iastore, 1) := by decide +kernel
theorem dX12_readTouch_168 : decode cX12_readTouch 168 = .ok (.aload_n 0, 1) := by decide +kernel
theorem dX12_readTouch_169 : decode cX12_readTouch 169 = .ok (.getfield 13, 3) := by decide +kernel
theorem dX12_readTouch_17 : decode cX12_readTouch 17 = .ok (.iconst 1, 1) := by decide +kernel
theorem dX12_readTouch_172 : decode cX12_readTouch 172 = .ok (.iconst 3, 1) := by decide +kernel
theorem dX12_readTouch_173 : decode cX12_readTouch 173 = .ok (.dup2, 1) := by decide +kernel
theorem dX12_readTouch_174 : decode cX12_readTouch 174 = .ok (.iaload, 1) := by decide +kernel
theorem dX12_readTouch_175 : decode cX12_readTouch 175 = .ok (.iconst 1, 1) := by decide +kernel
theorem dX12_readTouch_176 : decode cX12_readTouch 176 = .ok (.iadd, 1) := by decide +kernel
theorem dX12_readTouch_177 : decode cX12_readTouch 177 = .ok (.iastore, 1) := by decide +kernel
theorem dX12_readTouch_178 : decode cX12_readTouch 178 = .ok (.return_, 1) := by decide +kernel
theorem dX12_readTouch_18 : decode cX12_readTouch 18 = .ok (.iaload, 1) := by decide +kernel
theorem dX12_readTouch_19 : decode cX12_readTouch 19 = .ok (.iconst 1, 1) := by decide +kernel
theorem dX12_readTouch_2 : decode cX12_readTouch 2 = .ok (.bipush 20, 2) := by decide +kernel
theorem dX12_readTouch_20 : decode cX12_readTouch 20 = .ok (.isub, 1) := by decide +kernel
theorem dX12_readTouch_21 : decode cX12_readTouch 21 = .ok (.invokevirtual 199, 3) := by decide +kernel
theorem dX12_readTouch_24 : decode cX12_readTouch 24 = .ok (.istore_n 1, 1) := by decide +kernel
theorem dX12_readTouch_25 : decode cX12_readTouch 25 = .ok (.aload_n 0, 1) := by decide +kernel
theorem dX12_readTouch_26 : decode cX12_readTouch 26 = .ok (.getfield 108, 3) := by decide +kernel
theorem dX12_readTouch_29 : decode cX12_readTouch 29 = .ok (.ifCond .ne 58, 3) := by decide +kernel
theorem dX12_readTouch_32 : decode cX12_readTouch 32 = .ok (.aload_n 0, 1) := by decide +kernel
theorem dX12_readTouch_33 : decode cX12_readTouch 33 = .ok (.getfield 88, 3) := by decide +kernel
theorem dX12_readTouch_36 : decode cX12_readTouch 36 = .ok (.iconst 2, 1) := by decide +kernel
theorem dX12_readTouch_37 : decode cX12_readTouch 37 = .ok (.if_icmp .ne 50, 3) := by decide +kernel
theorem dX12_readTouch_4 : decode cX12_readTouch 4 = .ok (.invokevirtual 203, 3) := by decide +kernel
theorem dX12_readTouch_40 : decode cX12_readTouch 40 = .ok (.aload_n 0, 1) := by decide +kernel
theorem dX12_readTouch_41 : decode cX12_readTouch 41 = .ok (.getfield 102, 3) := by decide +kernel
theorem dX12_readTouch_44 : decode cX12_readTouch 44 = .ok (.iload_n 1, 1) := by decide +kernel
theorem dX12_readTouch_45 : decode cX12_readTouch 45 = .ok (.if_icmp .eq 38, 3) := by decide +kernel
theorem dX12_readTouch_48 : decode cX12_readTouch 48 = .ok (.aload_n 0, 1) := by decide +kernel
theorem dX12_readTouch_49 : decode cX12_readTouch 49 = .ok (.getfield 102, 3) := by decide +kernel
theorem dX12_readTouch_52 : decode cX12_readTouch 52 = .ok (.i2l, 1) := by decide +kernel
theorem dX12_readTouch_53 : decode cX12_readTouch 53 = .ok (.lconst 0, 1) := by decide +kernel
theorem dX12_readTouch_54 : decode cX12_readTouch 54 = .ok (.ldc2_w 207, 3) := by decide +kernel
theorem dX12_readTouch_57 : decode cX12_readTouch 57 = .ok (.invokestatic 137, 3) := by decide +kernel
theorem dX12_readTouch_60 : decode cX12_readTouch 60 = .ok (.ifCond .eq 27, 3) := by decide +kernel
theorem dX12_readTouch_63 : decode cX12_readTouch 63 = .ok (.aload_n 0, 1) := by decide +kernel
theorem dX12_readTouch_64 : decode cX12_readTouch 64 = .ok (.getfield 13, 3) := by decide +kernel
theorem dX12_readTouch_67 : decode cX12_readTouch 67 = .ok (.bipush 50, 2) := by decide +kernel
theorem dX12_readTouch_69 : decode cX12_readTouch 69 = .ok (.bipush 10, 2) := by decide +kernel
theorem dX12_readTouch_7 : decode cX12_readTouch 7 = .ok (.ifCond .ne 4, 3) := by decide +kernel
theorem dX12_readTouch_71 : decode cX12_readTouch 71 = .ok (.iload_n 1, 1) := by decide +kernel
theorem dX12_readTouch_72 : decode cX12_readTouch 72 = .ok (.imul, 1) := by decide +kernel
theorem dX12_readTouch_73 : decode cX12_readTouch 73 = .ok (.iadd, 1) := by decide +kernel
theorem dX12_readTouch_74 : decode cX12_readTouch 74 = .ok (.aload_n 0, 1) := by decide +kernel
theorem dX12_readTouch_75 : decode cX12_readTouch 75 = .ok (.getfield 102, 3) := by decide +kernel
theorem dX12_readTouch_78 : decode cX12_readTouch 78 = .ok (.iadd, 1) := by decide +kernel
theorem dX12_readTouch_79 : decode cX12_readTouch 79 = .ok (.iaload, 1) := by decide +kernel
theorem dX12_readTouch_80 : decode cX12_readTouch 80 = .ok (.ifCond .eq 7, 3) := by decide +kernel
theorem dX12_readTouch_83 : decode cX12_readTouch 83 = .ok (.iconst 1, 1) := by decide +kernel
theorem dX12_readTouch_84 : decode cX12_readTouch 84 = .ok (.goto 4, 3) := by decide +kernel
theorem dX12_readTouch_87 : decode cX12_readTouch 87 = .ok (.iconst 0, 1) := by decide +kernel
theorem dX12_readTouch_88 : decode cX12_readTouch 88 = .ok (.istore_n 2, 1) := by decide +kernel
theorem dX12_readTouch_89 : decode cX12_readTouch 89 = .ok (.iload_n 2, 1) := by decide +kernel
theorem dX12_readTouch_90 : decode cX12_readTouch 90 = .ok (.ifCond .eq 8, 3) := by decide +kernel
theorem dX12_readTouch_93 : decode cX12_readTouch 93 = .ok (.aload_n 0, 1) := by decide +kernel
theorem dX12_readTouch_94 : decode cX12_readTouch 94 = .ok (.iconst 3, 1) := by decide +kernel
theorem dX12_readTouch_95 : decode cX12_readTouch 95 = .ok (.invokevirtual 133, 3) := by decide +kernel
theorem dX12_readTouch_98 : decode cX12_readTouch 98 = .ok (.aload_n 0, 1) := by decide +kernel
theorem dX12_readTouch_99 : decode cX12_readTouch 99 = .ok (.iconst 0, 1) := by decide +kernel
set_option maxRecDepth 4000 in
theorem kp_X12_readTouch (l : Launch) (M : Mem) (hJ : Iw M) (hp0 : M 131 9 ≤ M 131 8 ∧ M 131 8 ≤ M 131 7 ∧ (M 131 10 = 0 ∨ M 131 9 < M 131 8)) (hp1 : M 133 6 ≤ M 131 9) (hp2 : Wl M) (hp3 : M 131 16 = 0) : CV l yX12_readTouch cX12_readTouch 5 none 7 (fun ad => [.ref (ad 131)]) M (fun M' => Fr [131, 133] M M' ∧ (Wl M' ∧ M' 131 7 = M 131 7 ∧ M' 131 16 = M 131 16 ∧ M 131 9 ≤ M' 131 9 ∧ M' 131 9 ≤ M' 131 8 ∧ M' 131 8 ≤ M' 131 7 ∧ (M' 131 10 = 0 ∨ M' 131 9 < M' 131 8) ∧ M' 133 6 = M 133 6 ∧ M' 133 1 = M 133 1 ∧ (M' 131 12 = 0 → M 131 12 = 0))) := by
  obtain ⟨hI, hW⟩ := hJ
  have hF : Fr [131, 133] M M := Fr.rf
  refine en_v (by decide +kernel) (fun ad => by exact Nat.le_of_ble_eq_true rfl) (fun D cy ad A p e s m args below meth c Q F hret => ?_)
  refine z_eq (ls' := [(0, .ref (ad 131))]) rfl rfl rfl ?_
  have hL := hp2
  refine z_aload_n F dX12_readTouch_0 rfl (q := 0) rfl ?_
  refine z_iconst F dX12_readTouch_1 ?_
  refine z_bipush F dX12_readTouch_2 (by decide +kernel) ?_
  refine zv_i (rest := []) F (kp_X12_begins l M ⟨hI, hW⟩ 3 (by omega) (by omega) 20 (by omega) (by omega) (by omega)) cs_X12_203 (T := TX12) (N := 44) (ci := 12) rfl gs_131 (by decide) (by decide) rfl rfl rfl (Nat.le_of_ble_eq_true rfl) dX12_readTouch_4 (fun v1 M2 rv1 hI p3 => ?_)
  obtain ⟨hI, hW⟩ := hI
  obtain ⟨⟨av1, bv1⟩, fp3, xp3⟩ := p3
  have hF := hF.call fp3 (by decide)
  have tM2_133_6 : M2 133 6 = M 133 6 := fp3.at (by decide)
  have tM2_133_1 : M2 133 1 = M 133 1 := fp3.at (by decide)
  have tM2_133_2 : M2 133 2 = M 133 2 := fp3.at (by decide)
  have tM2_133_4 : M2 133 4 = M 133 4 := fp3.at (by decide)
  have hq9 := wl_fr fp3 (by decide)
  have hL := hq9.2 hL
  have cM2 := hq9.1
  clear hq9
  have hbv1 : M 133 (3 : Int).toNat = M 133 3 := rfl
  refine z_if_ne (tgt := 11) F dX12_readTouch_7 (by decide +kernel) (by omega) (fun c4 => ?_) (fun c4 => ?_)
  · refine z_aload_n F dX12_readTouch_11 rfl (q := 0) rfl ?_
    refine z_iconst F dX12_readTouch_12 ?_
    refine z_aload_n F dX12_readTouch_13 rfl (q := 0) rfl ?_
    refine rf_X12_13 F gs_131 rfl dX12_readTouch_14 ?_
    refine z_iconst F dX12_readTouch_17 ?_
    refine z_iald F hI gs_133 (by omega) (by omega) (by decide) (show Bd 133 1 = (0, 10) from rfl) dX12_readTouch_18 (fun v5 (ev5 : v5 = M2 133 1) av5 bv5 => ?_)
    refine z_iconst F dX12_readTouch_19 ?_
    refine z_isub F dX12_readTouch_20 ?_
    refine zv_i (rest := []) F (kp_X12_number l M2 ⟨hI, hW⟩ 0 (by omega) (by omega) (v5 - 1) (by omega) (by omega) (by omega)) cs_X12_199 (T := TX12) (N := 44) (ci := 12) rfl gs_131 (by decide) (by decide) rfl rfl rfl (Nat.le_of_ble_eq_true rfl) dX12_readTouch_21 (fun v6 M7 rv6 hI p8 => ?_)
    obtain ⟨hI, hW⟩ := hI
    obtain ⟨⟨av6, bv6⟩, fp8, xp8⟩ := p8
    have hF := hF.call fp8 (by decide)
    have tM7_133_6 : M7 133 6 = M2 133 6 := fp8.at (by decide)
    have tM7_133_1 : M7 133 1 = M2 133 1 := fp8.at (by decide)
    have tM7_133_2 : M7 133 2 = M2 133 2 := fp8.at (by decide)
    have tM7_133_4 : M7 133 4 = M2 133 4 := fp8.at (by decide)
    have hq9 := wl_fr fp8 (by decide)
    have hL := hq9.2 hL
    have cM7 := hq9.1
    clear hq9
    have hkv6 : 0 ≤ v6 ∧ v6 ≤ 9 := by omega
    refine z_istore_n F dX12_readTouch_24 rfl (by decide) (ls' := [(1, ii v6), (0, .ref (ad 131))]) rfl ?_
    refine z_aload_n F dX12_readTouch_25 rfl (q := 1) rfl ?_
    refine gf_X12_108 F hI gs_131 rfl bd_131_12 dX12_readTouch_26 (fun v9 ev9 av9 bv9 => ?_)
    refine z_if_ne (tgt := 87) F dX12_readTouch_29 (by decide +kernel) (by omega) (fun c10 => ?_) (fun c10 => ?_)
    · refine z_iconst F dX12_readTouch_87 ?_
      refine z_istore_n F dX12_readTouch_88 rfl (by decide) (ls' := [(2, ii 0), (1, ii v6), (0, .ref (ad 131))]) rfl ?_
      refine z_iload_n F dX12_readTouch_89 rfl (q := 0) rfl ?_
      refine z_if_eq (tgt := 98) F dX12_readTouch_90 (by decide +kernel) (by omega) (fun c11 => ?_) (fun c11 => by exfalso; omega)
      refine z_aload_n F dX12_readTouch_98 rfl (q := 2) rfl ?_
      refine z_iconst F dX12_readTouch_99 ?_
      refine z_aload_n F dX12_readTouch_100 rfl (q := 2) rfl ?_
      refine rf_X12_13 F gs_131 rfl dX12_readTouch_101 ?_
      refine z_iconst F dX12_readTouch_104 ?_
      refine z_iald F hI gs_133 (by omega) (by omega) (by decide) (show Bd 133 1 = (0, 10) from rfl) dX12_readTouch_105 (fun v12 (ev12 : v12 = M7 133 1) av12 bv12 => ?_)
      have q13 : v5 = M7 133 1 := ev5.trans ((fp8.at (by decide)) : M7 133 1 = _).symm
      have zv12 : v5 = v12 := q13.trans ev12.symm
      subst zv12
      refine z_iconst F dX12_readTouch_106 ?_
      refine z_isub F dX12_readTouch_107 ?_
      refine zv_i (rest := []) F (kp_X12_number l M7 ⟨hI, hW⟩ 0 (by omega) (by omega) (v5 - 1) (by omega) (by omega) (by omega)) cs_X12_199 (T := TX12) (N := 44) (ci := 12) rfl gs_131 (by decide) (by decide) rfl rfl rfl (Nat.le_of_ble_eq_true rfl) dX12_readTouch_108 (fun v14 M15 rv14 hI p16 => ?_)
      obtain ⟨hI, hW⟩ := hI
      obtain ⟨⟨av14, bv14⟩, fp16, xp16⟩ := p16
      have hF := hF.call fp16 (by decide)
      have tM15_133_6 : M15 133 6 = M7 133 6 := fp16.at (by decide)
      have tM15_133_1 : M15 133 1 = M7 133 1 := fp16.at (by decide)
      have tM15_133_2 : M15 133 2 = M7 133 2 := fp16.at (by decide)
      have tM15_133_4 : M15 133 4 = M7 133 4 := fp16.at (by decide)
      have hq9 := wl_fr fp16 (by decide)
      have hL := hq9.2 hL
      have cM15 := hq9.1
      clear hq9
      have hkv14 : 0 ≤ v14 ∧ v14 ≤ 9 := by omega
      refine z_istore_n F dX12_readTouch_111 rfl (by decide) (ls' := [(3, ii v14), (2, ii 0), (1, ii v6), (0, .ref (ad 131))]) rfl ?_
      refine z_aload_n F dX12_readTouch_112 rfl (q := 3) rfl ?_
      refine z_ldcS (j := 59) F dX12_readTouch_113 rfl rfl rfl ?_
      refine z_eq (st' := [.ref (ad 1059), .ref (ad 131)]) rfl rfl rfl ?_
      refine zv_i (rest := []) F (kp_X12_took_131_1059 l M15 ⟨hI, hW⟩ (by omega)) cs_X12_130 (T := TX12) (N := 44) (ci := 12) rfl gs_131 (by decide) (by decide) rfl rfl rfl (Nat.le_of_ble_eq_true rfl) dX12_readTouch_115 (fun v17 M18 rv17 hI p19 => ?_)
      obtain ⟨hI, hW⟩ := hI
      obtain ⟨⟨av17, bv17⟩, fp19, xp19⟩ := p19
      have hF := hF.call fp19 (by decide)
      have tM18_133_6 : M18 133 6 = M15 133 6 := fp19.at (by decide)
      have tM18_133_1 : M18 133 1 = M15 133 1 := fp19.at (by decide)
      have tM18_133_2 : M18 133 2 = M15 133 2 := fp19.at (by decide)
      have tM18_133_4 : M18 133 4 = M15 133 4 := fp19.at (by decide)
      have hq9 := wl_fr fp19 (by decide)
      have hL := hq9.2 hL
      have cM18 := hq9.1
      clear hq9
      refine z_if_eq (tgt := 125) F dX12_readTouch_118 (by decide +kernel) (by omega) (fun c20 => ?_) (fun c20 => ?_)
      · refine z_iconst F dX12_readTouch_125 ?_
        refine z_istore F dX12_readTouch_126 (by decide) (ls' := [(4, ii 1), (3, ii v14), (2, ii 0), (1, ii v6), (0, .ref (ad 131))]) rfl ?_
        refine z_aload_n F dX12_readTouch_128 rfl (q := 4) rfl ?_
        refine gf_X12_108 F hI gs_131 rfl bd_131_12 dX12_readTouch_129 (fun v21 ev21 av21 bv21 => ?_)
        refine z_if_eq (tgt := 136) F dX12_readTouch_132 (by decide +kernel) (by omega) (fun c22 => ?_) (fun c22 => ?_)
        · refine z_aload_n F dX12_readTouch_136 rfl (q := 4) rfl ?_
          refine rf_X12_13 F gs_131 rfl dX12_readTouch_137 ?_
          refine z_bipush F dX12_readTouch_140 (by decide +kernel) ?_
          refine z_bipush F dX12_readTouch_142 (by decide +kernel) ?_
          refine z_iload_n F dX12_readTouch_144 rfl (q := 3) rfl ?_
          refine z_imul F dX12_readTouch_145 ?_
          refine z_iadd F dX12_readTouch_146 ?_
          refine z_iload_n F dX12_readTouch_147 rfl (q := 1) rfl ?_
          refine z_iadd F dX12_readTouch_148 ?_
          refine z_iload F dX12_readTouch_149 (q := 0) rfl ?_
          refine z_iast F hI gs_133 (by omega) (by omega) (by decide) (bd_133.trans (kn_touch (by omega) (by omega))) dX12_readTouch_151 (by omega) (by omega) (fun M24 hI sf23 f23 => ?_)
          have tM24_131_7 : M24 131 7 = M18 131 7 := f23 131 7 (fun q => absurd q.1 (by decide))
          have tM24_131_8 : M24 131 8 = M18 131 8 := f23 131 8 (fun q => absurd q.1 (by decide))
          have tM24_131_9 : M24 131 9 = M18 131 9 := f23 131 9 (fun q => absurd q.1 (by decide))
          have tM24_131_10 : M24 131 10 = M18 131 10 := f23 131 10 (fun q => absurd q.1 (by decide))
          have tM24_131_12 : M24 131 12 = M18 131 12 := f23 131 12 (fun q => absurd q.1 (by decide))
          have tM24_131_16 : M24 131 16 = M18 131 16 := f23 131 16 (fun q => absurd q.1 (by decide))
          have tM24_133_6 : M24 133 6 = M18 133 6 := f23 133 6 (fun q => by have := q.2; omega)
          have tM24_133_1 : M24 133 1 = M18 133 1 := f23 133 1 (fun q => by have := q.2; omega)
          have tM24_133_2 : M24 133 2 = M18 133 2 := f23 133 2 (fun q => by have := q.2; omega)
          have tM24_133_4 : M24 133 4 = M18 133 4 := f23 133 4 (fun q => by have := q.2; omega)
          have hq9 := wl_wr f23 (by omega)
          have hL := hq9.2 hL
          have cM24 := hq9.1
          clear hq9
          have hF := hF.wr f23 (by decide) (by decide)
          have hW : WFk M24 := hW.site f23 (by decide)
          refine z_aload_n F dX12_readTouch_152 rfl (q := 4) rfl ?_
          refine rf_X12_13 F gs_131 rfl dX12_readTouch_153 ?_
          refine z_bipush F dX12_readTouch_156 (by decide +kernel) ?_
          refine z_bipush F dX12_readTouch_158 (by decide +kernel) ?_
          refine z_iload_n F dX12_readTouch_160 rfl (q := 1) rfl ?_
          refine z_imul F dX12_readTouch_161 ?_
          refine z_iadd F dX12_readTouch_162 ?_
          refine z_iload_n F dX12_readTouch_163 rfl (q := 3) rfl ?_
          refine z_iadd F dX12_readTouch_164 ?_
          refine z_iload F dX12_readTouch_165 (q := 0) rfl ?_
          refine z_iast F hI gs_133 (by omega) (by omega) (by decide) (bd_133.trans (kn_touch (by omega) (by omega))) dX12_readTouch_167 (by omega) (by omega) (fun M26 hI sf25 f25 => ?_)
          have tM26_131_7 : M26 131 7 = M24 131 7 := f25 131 7 (fun q => absurd q.1 (by decide))
          have tM26_131_8 : M26 131 8 = M24 131 8 := f25 131 8 (fun q => absurd q.1 (by decide))
          have tM26_131_9 : M26 131 9 = M24 131 9 := f25 131 9 (fun q => absurd q.1 (by decide))
          have tM26_131_10 : M26 131 10 = M24 131 10 := f25 131 10 (fun q => absurd q.1 (by decide))
          have tM26_131_12 : M26 131 12 = M24 131 12 := f25 131 12 (fun q => absurd q.1 (by decide))
          have tM26_131_16 : M26 131 16 = M24 131 16 := f25 131 16 (fun q => absurd q.1 (by decide))
          have tM26_133_6 : M26 133 6 = M24 133 6 := f25 133 6 (fun q => by have := q.2; omega)
          have tM26_133_1 : M26 133 1 = M24 133 1 := f25 133 1 (fun q => by have := q.2; omega)
          have tM26_133_2 : M26 133 2 = M24 133 2 := f25 133 2 (fun q => by have := q.2; omega)
          have tM26_133_4 : M26 133 4 = M24 133 4 := f25 133 4 (fun q => by have := q.2; omega)
          have hq9 := wl_wr f25 (by omega)
          have hL := hq9.2 hL
          have cM26 := hq9.1
          clear hq9
          have hF := hF.wr f25 (by decide) (by decide)
          have hW : WFk M26 := hW.site f25 (by decide)
          refine z_aload_n F dX12_readTouch_168 rfl (q := 4) rfl ?_
          refine rf_X12_13 F gs_131 rfl dX12_readTouch_169 ?_
          refine z_iconst F dX12_readTouch_172 ?_
          refine z_dup2 F dX12_readTouch_173 rfl rfl ?_
          refine z_iald F hI gs_133 (by omega) (by omega) (by decide) (show Bd 133 3 = (-2147483648, 2147483647) from rfl) dX12_readTouch_174 (fun v27 (ev27 : v27 = M26 133 3) av27 bv27 => ?_)
          refine z_iconst F dX12_readTouch_175 ?_
          refine z_iadd F dX12_readTouch_176 ?_
          refine z_wrap (fun v28 rv28 wv28 => ?_)
          refine z_iast F hI gs_133 (by omega) (by omega) (by decide) (show Bd 133 3 = (-2147483648, 2147483647) from rfl) dX12_readTouch_177 (by omega) (by omega) (fun M30 hI sf29 f29 => ?_)
          have tM30_131_7 : M30 131 7 = M26 131 7 := f29 131 7 (fun q => absurd q.1 (by decide))
          have tM30_131_8 : M30 131 8 = M26 131 8 := f29 131 8 (fun q => absurd q.1 (by decide))
          have tM30_131_9 : M30 131 9 = M26 131 9 := f29 131 9 (fun q => absurd q.1 (by decide))
          have tM30_131_10 : M30 131 10 = M26 131 10 := f29 131 10 (fun q => absurd q.1 (by decide))
          have tM30_131_12 : M30 131 12 = M26 131 12 := f29 131 12 (fun q => absurd q.1 (by decide))
          have tM30_131_16 : M30 131 16 = M26 131 16 := f29 131 16 (fun q => absurd q.1 (by decide))
          have tM30_133_6 : M30 133 6 = M26 133 6 := f29 133 6 (fun q => absurd q.2 (by decide))
          have tM30_133_1 : M30 133 1 = M26 133 1 := f29 133 1 (fun q => absurd q.2 (by decide))
          have tM30_133_2 : M30 133 2 = M26 133 2 := f29 133 2 (fun q => absurd q.2 (by decide))
          have tM30_133_4 : M30 133 4 = M26 133 4 := f29 133 4 (fun q => absurd q.2 (by decide))
          have hq9 := wl_wr f29 (by omega)
          have hL := hq9.2 hL
          have cM30 := hq9.1
          clear hq9
          have hF := hF.wr f29 (by decide) (by decide)
          have hW : WFk M30 := hW.site f29 (by decide)
          have sf29 : M30 133 3 = v28 := sf29
          exact hret _ 178 _ ⟨hI, hW⟩ ⟨hF, ⟨hL, by omega⟩⟩ dX12_readTouch_178
        · exact hret _ 135 _ ⟨hI, hW⟩ ⟨hF, ⟨hL, by omega⟩⟩ dX12_readTouch_135
      · refine z_iconst F dX12_readTouch_121 ?_
        refine z_goto (tgt := 126) F dX12_readTouch_122 (by decide +kernel) ?_
        refine z_istore F dX12_readTouch_126 (by decide) (ls' := [(4, ii 2), (3, ii v14), (2, ii 0), (1, ii v6), (0, .ref (ad 131))]) rfl ?_
        refine z_aload_n F dX12_readTouch_128 rfl (q := 4) rfl ?_
        refine gf_X12_108 F hI gs_131 rfl bd_131_12 dX12_readTouch_129 (fun v31 ev31 av31 bv31 => ?_)
        refine z_if_eq (tgt := 136) F dX12_readTouch_132 (by decide +kernel) (by omega) (fun c32 => ?_) (fun c32 => ?_)
        · refine z_aload_n F dX12_readTouch_136 rfl (q := 4) rfl ?_
          refine rf_X12_13 F gs_131 rfl dX12_readTouch_137 ?_
          refine z_bipush F dX12_readTouch_140 (by decide +kernel) ?_
          refine z_bipush F dX12_readTouch_142 (by decide +kernel) ?_
          refine z_iload_n F dX12_readTouch_144 rfl (q := 3) rfl ?_
          refine z_imul F dX12_readTouch_145 ?_
          refine z_iadd F dX12_readTouch_146 ?_
          refine z_iload_n F dX12_readTouch_147 rfl (q := 1) rfl ?_
          refine z_iadd F dX12_readTouch_148 ?_
          refine z_iload F dX12_readTouch_149 (q := 0) rfl ?_
          refine z_iast F hI gs_133 (by omega) (by omega) (by decide) (bd_133.trans (kn_touch (by omega) (by omega))) dX12_readTouch_151 (by omega) (by omega) (fun M34 hI sf33 f33 => ?_)
          have tM34_131_7 : M34 131 7 = M18 131 7 := f33 131 7 (fun q => absurd q.1 (by decide))
          have tM34_131_8 : M34 131 8 = M18 131 8 := f33 131 8 (fun q => absurd q.1 (by decide))
          have tM34_131_9 : M34 131 9 = M18 131 9 := f33 131 9 (fun q => absurd q.1 (by decide))
          have tM34_131_10 : M34 131 10 = M18 131 10 := f33 131 10 (fun q => absurd q.1 (by decide))
          have tM34_131_12 : M34 131 12 = M18 131 12 := f33 131 12 (fun q => absurd q.1 (by decide))
          have tM34_131_16 : M34 131 16 = M18 131 16 := f33 131 16 (fun q => absurd q.1 (by decide))
          have tM34_133_6 : M34 133 6 = M18 133 6 := f33 133 6 (fun q => by have := q.2; omega)
          have tM34_133_1 : M34 133 1 = M18 133 1 := f33 133 1 (fun q => by have := q.2; omega)
          have tM34_133_2 : M34 133 2 = M18 133 2 := f33 133 2 (fun q => by have := q.2; omega)
          have tM34_133_4 : M34 133 4 = M18 133 4 := f33 133 4 (fun q => by have := q.2; omega)
          have hq9 := wl_wr f33 (by omega)
          have hL := hq9.2 hL
          have cM34 := hq9.1
          clear hq9
          have hF := hF.wr f33 (by decide) (by decide)
          have hW : WFk M34 := hW.site f33 (by decide)
          refine z_aload_n F dX12_readTouch_152 rfl (q := 4) rfl ?_
          refine rf_X12_13 F gs_131 rfl dX12_readTouch_153 ?_
          refine z_bipush F dX12_readTouch_156 (by decide +kernel) ?_
          refine z_bipush F dX12_readTouch_158 (by decide +kernel) ?_
          refine z_iload_n F dX12_readTouch_160 rfl (q := 1) rfl ?_
          refine z_imul F dX12_readTouch_161 ?_
          refine z_iadd F dX12_readTouch_162 ?_
          refine z_iload_n F dX12_readTouch_163 rfl (q := 3) rfl ?_
          refine z_iadd F dX12_readTouch_164 ?_
          refine z_iload F dX12_readTouch_165 (q := 0) rfl ?_
          refine z_iast F hI gs_133 (by omega) (by omega) (by decide) (bd_133.trans (kn_touch (by omega) (by omega))) dX12_readTouch_167 (by omega) (by omega) (fun M36 hI sf35 f35 => ?_)
          have tM36_131_7 : M36 131 7 = M34 131 7 := f35 131 7 (fun q => absurd q.1 (by decide))
          have tM36_131_8 : M36 131 8 = M34 131 8 := f35 131 8 (fun q => absurd q.1 (by decide))
          have tM36_131_9 : M36 131 9 = M34 131 9 := f35 131 9 (fun q => absurd q.1 (by decide))
          have tM36_131_10 : M36 131 10 = M34 131 10 := f35 131 10 (fun q => absurd q.1 (by decide))
          have tM36_131_12 : M36 131 12 = M34 131 12 := f35 131 12 (fun q => absurd q.1 (by decide))
          have tM36_131_16 : M36 131 16 = M34 131 16 := f35 131 16 (fun q => absurd q.1 (by decide))
          have tM36_133_6 : M36 133 6 = M34 133 6 := f35 133 6 (fun q => by have := q.2; omega)
          have tM36_133_1 : M36 133 1 = M34 133 1 := f35 133 1 (fun q => by have := q.2; omega)
          have tM36_133_2 : M36 133 2 = M34 133 2 := f35 133 2 (fun q => by have := q.2; omega)
          have tM36_133_4 : M36 133 4 = M34 133 4 := f35 133 4 (fun q => by have := q.2; omega)
          have hq9 := wl_wr f35 (by omega)
          have hL := hq9.2 hL
          have cM36 := hq9.1
          clear hq9
          have hF := hF.wr f35 (by decide) (by decide)
          have hW : WFk M36 := hW.site f35 (by decide)
          refine z_aload_n F dX12_readTouch_168 rfl (q := 4) rfl ?_
          refine rf_X12_13 F gs_131 rfl dX12_readTouch_169 ?_
          refine z_iconst F dX12_readTouch_172 ?_
          refine z_dup2 F dX12_readTouch_173 rfl rfl ?_
          refine z_iald F hI gs_133 (by omega) (by omega) (by decide) (show Bd 133 3 = (-2147483648, 2147483647) from rfl) dX12_readTouch_174 (fun v37 (ev37 : v37 = M36 133 3) av37 bv37 => ?_)
          refine z_iconst F dX12_readTouch_175 ?_
          refine z_iadd F dX12_readTouch_176 ?_
          refine z_wrap (fun v38 rv38 wv38 => ?_)
          refine z_iast F hI gs_133 (by omega) (by omega) (by decide) (show Bd 133 3 = (-2147483648, 2147483647) from rfl) dX12_readTouch_177 (by omega) (by omega) (fun M40 hI sf39 f39 => ?_)
          have tM40_131_7 : M40 131 7 = M36 131 7 := f39 131 7 (fun q => absurd q.1 (by decide))
          have tM40_131_8 : M40 131 8 = M36 131 8 := f39 131 8 (fun q => absurd q.1 (by decide))
          have tM40_131_9 : M40 131 9 = M36 131 9 := f39 131 9 (fun q => absurd q.1 (by decide))
          have tM40_131_10 : M40 131 10 = M36 131 10 := f39 131 10 (fun q => absurd q.1 (by decide))
          have tM40_131_12 : M40 131 12 = M36 131 12 := f39 131 12 (fun q => absurd q.1 (by decide))
          have tM40_131_16 : M40 131 16 = M36 131 16 := f39 131 16 (fun q => absurd q.1 (by decide))
          have tM40_133_6 : M40 133 6 = M36 133 6 := f39 133 6 (fun q => absurd q.2 (by decide))
          have tM40_133_1 : M40 133 1 = M36 133 1 := f39 133 1 (fun q => absurd q.2 (by decide))
          have tM40_133_2 : M40 133 2 = M36 133 2 := f39 133 2 (fun q => absurd q.2 (by decide))
          have tM40_133_4 : M40 133 4 = M36 133 4 := f39 133 4 (fun q => absurd q.2 (by decide))
          have hq9 := wl_wr f39 (by omega)
          have hL := hq9.2 hL
          have cM40 := hq9.1
          clear hq9
          have hF := hF.wr f39 (by decide) (by decide)
          have hW : WFk M40 := hW.site f39 (by decide)
          have sf39 : M40 133 3 = v38 := sf39
          exact hret _ 178 _ ⟨hI, hW⟩ ⟨hF, ⟨hL, by omega⟩⟩ dX12_readTouch_178
        · exact hret _ 135 _ ⟨hI, hW⟩ ⟨hF, ⟨hL, by omega⟩⟩ dX12_readTouch_135
    · refine z_aload_n F dX12_readTouch_32 rfl (q := 1) rfl ?_
      refine gf_X12_88 F hI gs_131 rfl bd_131_10 dX12_readTouch_33 (fun v41 ev41 av41 bv41 => ?_)
      refine z_iconst F dX12_readTouch_36 ?_
      refine z_icmp_ne (tgt := 87) F dX12_readTouch_37 (by decide +kernel) (by omega) (by omega) (fun c42 => ?_) (fun c42 => ?_)
      · refine z_iconst F dX12_readTouch_87 ?_
        refine z_istore_n F dX12_readTouch_88 rfl (by decide) (ls' := [(2, ii 0), (1, ii v6), (0, .ref (ad 131))]) rfl ?_
        refine z_iload_n F dX12_readTouch_89 rfl (q := 0) rfl ?_
        refine z_if_eq (tgt := 98) F dX12_readTouch_90 (by decide +kernel) (by omega) (fun c43 => ?_) (fun c43 => by exfalso; omega)
        refine z_aload_n F dX12_readTouch_98 rfl (q := 2) rfl ?_
        refine z_iconst F dX12_readTouch_99 ?_
        refine z_aload_n F dX12_readTouch_100 rfl (q := 2) rfl ?_
        refine rf_X12_13 F gs_131 rfl dX12_readTouch_101 ?_
        refine z_iconst F dX12_readTouch_104 ?_
        refine z_iald F hI gs_133 (by omega) (by omega) (by decide) (show Bd 133 1 = (0, 10) from rfl) dX12_readTouch_105 (fun v44 (ev44 : v44 = M7 133 1) av44 bv44 => ?_)
        have q45 : v5 = M7 133 1 := ev5.trans ((fp8.at (by decide)) : M7 133 1 = _).symm
        have zv44 : v5 = v44 := q45.trans ev44.symm
        subst zv44
        refine z_iconst F dX12_readTouch_106 ?_
        refine z_isub F dX12_readTouch_107 ?_
        refine zv_i (rest := []) F (kp_X12_number l M7 ⟨hI, hW⟩ 0 (by omega) (by omega) (v5 - 1) (by omega) (by omega) (by omega)) cs_X12_199 (T := TX12) (N := 44) (ci := 12) rfl gs_131 (by decide) (by decide) rfl rfl rfl (Nat.le_of_ble_eq_true rfl) dX12_readTouch_108 (fun v46 M47 rv46 hI p48 => ?_)
        obtain ⟨hI, hW⟩ := hI
        obtain ⟨⟨av46, bv46⟩, fp48, xp48⟩ := p48
        have hF := hF.call fp48 (by decide)
        have tM47_133_6 : M47 133 6 = M7 133 6 := fp48.at (by decide)
        have tM47_133_1 : M47 133 1 = M7 133 1 := fp48.at (by decide)
        have tM47_133_2 : M47 133 2 = M7 133 2 := fp48.at (by decide)
        have tM47_133_4 : M47 133 4 = M7 133 4 := fp48.at (by decide)
        have hq9 := wl_fr fp48 (by decide)
        have hL := hq9.2 hL
        have cM47 := hq9.1
        clear hq9
        have hkv46 : 0 ≤ v46 ∧ v46 ≤ 9 := by omega
        refine z_istore_n F dX12_readTouch_111 rfl (by decide) (ls' := [(3, ii v46), (2, ii 0), (1, ii v6), (0, .ref (ad 131))]) rfl ?_
        refine z_aload_n F dX12_readTouch_112 rfl (q := 3) rfl ?_
        refine z_ldcS (j := 59) F dX12_readTouch_113 rfl rfl rfl ?_
        refine z_eq (st' := [.ref (ad 1059), .ref (ad 131)]) rfl rfl rfl ?_
        refine zv_i (rest := []) F (kp_X12_took_131_1059 l M47 ⟨hI, hW⟩ (by omega)) cs_X12_130 (T := TX12) (N := 44) (ci := 12) rfl gs_131 (by decide) (by decide) rfl rfl rfl (Nat.le_of_ble_eq_true rfl) dX12_readTouch_115 (fun v49 M50 rv49 hI p51 => ?_)
        obtain ⟨hI, hW⟩ := hI
        obtain ⟨⟨av49, bv49⟩, fp51, xp51⟩ := p51
        have hF := hF.call fp51 (by decide)
        have tM50_133_6 : M50 133 6 = M47 133 6 := fp51.at (by decide)
        have tM50_133_1 : M50 133 1 = M47 133 1 := fp51.at (by decide)
        have tM50_133_2 : M50 133 2 = M47 133 2 := fp51.at (by decide)
        have tM50_133_4 : M50 133 4 = M47 133 4 := fp51.at (by decide)
        have hq9 := wl_fr fp51 (by decide)
        have hL := hq9.2 hL
        have cM50 := hq9.1
        clear hq9
        refine z_if_eq (tgt := 125) F dX12_readTouch_118 (by decide +kernel) (by omega) (fun c52 => ?_) (fun c52 => ?_)
        · refine z_iconst F dX12_readTouch_125 ?_
          refine z_istore F dX12_readTouch_126 (by decide) (ls' := [(4, ii 1), (3, ii v46), (2, ii 0), (1, ii v6), (0, .ref (ad 131))]) rfl ?_
          refine z_aload_n F dX12_readTouch_128 rfl (q := 4) rfl ?_
          refine gf_X12_108 F hI gs_131 rfl bd_131_12 dX12_readTouch_129 (fun v53 ev53 av53 bv53 => ?_)
          refine z_if_eq (tgt := 136) F dX12_readTouch_132 (by decide +kernel) (by omega) (fun c54 => ?_) (fun c54 => ?_)
          · refine z_aload_n F dX12_readTouch_136 rfl (q := 4) rfl ?_
            refine rf_X12_13 F gs_131 rfl dX12_readTouch_137 ?_
            refine z_bipush F dX12_readTouch_140 (by decide +kernel) ?_
            refine z_bipush F dX12_readTouch_142 (by decide +kernel) ?_
            refine z_iload_n F dX12_readTouch_144 rfl (q := 3) rfl ?_
            refine z_imul F dX12_readTouch_145 ?_
            refine z_iadd F dX12_readTouch_146 ?_
            refine z_iload_n F dX12_readTouch_147 rfl (q := 1) rfl ?_
            refine z_iadd F dX12_readTouch_148 ?_
            refine z_iload F dX12_readTouch_149 (q := 0) rfl ?_
            refine z_iast F hI gs_133 (by omega) (by omega) (by decide) (bd_133.trans (kn_touch (by omega) (by omega))) dX12_readTouch_151 (by omega) (by omega) (fun M56 hI sf55 f55 => ?_)
            have tM56_131_7 : M56 131 7 = M50 131 7 := f55 131 7 (fun q => absurd q.1 (by decide))
            have tM56_131_8 : M56 131 8 = M50 131 8 := f55 131 8 (fun q => absurd q.1 (by decide))
            have tM56_131_9 : M56 131 9 = M50 131 9 := f55 131 9 (fun q => absurd q.1 (by decide))
            have tM56_131_10 : M56 131 10 = M50 131 10 := f55 131 10 (fun q => absurd q.1 (by decide))
            have tM56_131_12 : M56 131 12 = M50 131 12 := f55 131 12 (fun q => absurd q.1 (by decide))
            have tM56_131_16 : M56 131 16 = M50 131 16 := f55 131 16 (fun q => absurd q.1 (by decide))
            have tM56_133_6 : M56 133 6 = M50 133 6 := f55 133 6 (fun q => by have := q.2; omega)
            have tM56_133_1 : M56 133 1 = M50 133 1 := f55 133 1 (fun q => by have := q.2; omega)
            have tM56_133_2 : M56 133 2 = M50 133 2 := f55 133 2 (fun q => by have := q.2; omega)
            have tM56_133_4 : M56 133 4 = M50 133 4 := f55 133 4 (fun q => by have := q.2; omega)
            have hq9 := wl_wr f55 (by omega)
            have hL := hq9.2 hL
            have cM56 := hq9.1
            clear hq9
            have hF := hF.wr f55 (by decide) (by decide)
            have hW : WFk M56 := hW.site f55 (by decide)
            refine z_aload_n F dX12_readTouch_152 rfl (q := 4) rfl ?_
            refine rf_X12_13 F gs_131 rfl dX12_readTouch_153 ?_
            refine z_bipush F dX12_readTouch_156 (by decide +kernel) ?_
            refine z_bipush F dX12_readTouch_158 (by decide +kernel) ?_
            refine z_iload_n F dX12_readTouch_160 rfl (q := 1) rfl ?_
            refine z_imul F dX12_readTouch_161 ?_
            refine z_iadd F dX12_readTouch_162 ?_
            refine z_iload_n F dX12_readTouch_163 rfl (q := 3) rfl ?_
            refine z_iadd F dX12_readTouch_164 ?_
            refine z_iload F dX12_readTouch_165 (q := 0) rfl ?_
            refine z_iast F hI gs_133 (by omega) (by omega) (by decide) (bd_133.trans (kn_touch (by omega) (by omega))) dX12_readTouch_167 (by omega) (by omega) (fun M58 hI sf57 f57 => ?_)
            have tM58_131_7 : M58 131 7 = M56 131 7 := f57 131 7 (fun q => absurd q.1 (by decide))
            have tM58_131_8 : M58 131 8 = M56 131 8 := f57 131 8 (fun q => absurd q.1 (by decide))
            have tM58_131_9 : M58 131 9 = M56 131 9 := f57 131 9 (fun q => absurd q.1 (by decide))
            have tM58_131_10 : M58 131 10 = M56 131 10 := f57 131 10 (fun q => absurd q.1 (by decide))
            have tM58_131_12 : M58 131 12 = M56 131 12 := f57 131 12 (fun q => absurd q.1 (by decide))
            have tM58_131_16 : M58 131 16 = M56 131 16 := f57 131 16 (fun q => absurd q.1 (by decide))
            have tM58_133_6 : M58 133 6 = M56 133 6 := f57 133 6 (fun q => by have := q.2; omega)
            have tM58_133_1 : M58 133 1 = M56 133 1 := f57 133 1 (fun q => by have := q.2; omega)
            have tM58_133_2 : M58 133 2 = M56 133 2 := f57 133 2 (fun q => by have := q.2; omega)
            have tM58_133_4 : M58 133 4 = M56 133 4 := f57 133 4 (fun q => by have := q.2; omega)
            have hq9 := wl_wr f57 (by omega)
            have hL := hq9.2 hL
            have cM58 := hq9.1
            clear hq9
            have hF := hF.wr f57 (by decide) (by decide)
            have hW : WFk M58 := hW.site f57 (by decide)
            refine z_aload_n F dX12_readTouch_168 rfl (q := 4) rfl ?_
            refine rf_X12_13 F gs_131 rfl dX12_readTouch_169 ?_
            refine z_iconst F dX12_readTouch_172 ?_
            refine z_dup2 F dX12_readTouch_173 rfl rfl ?_
            refine z_iald F hI gs_133 (by omega) (by omega) (by decide) (show Bd 133 3 = (-2147483648, 2147483647) from rfl) dX12_readTouch_174 (fun v59 (ev59 : v59 = M58 133 3) av59 bv59 => ?_)
            refine z_iconst F dX12_readTouch_175 ?_
            refine z_iadd F dX12_readTouch_176 ?_
            refine z_wrap (fun v60 rv60 wv60 => ?_)
            refine z_iast F hI gs_133 (by omega) (by omega) (by decide) (show Bd 133 3 = (-2147483648, 2147483647) from rfl) dX12_readTouch_177 (by omega) (by omega) (fun M62 hI sf61 f61 => ?_)
            have tM62_131_7 : M62 131 7 = M58 131 7 := f61 131 7 (fun q => absurd q.1 (by decide))
            have tM62_131_8 : M62 131 8 = M58 131 8 := f61 131 8 (fun q => absurd q.1 (by decide))
            have tM62_131_9 : M62 131 9 = M58 131 9 := f61 131 9 (fun q => absurd q.1 (by decide))
            have tM62_131_10 : M62 131 10 = M58 131 10 := f61 131 10 (fun q => absurd q.1 (by decide))
            have tM62_131_12 : M62 131 12 = M58 131 12 := f61 131 12 (fun q => absurd q.1 (by decide))
            have tM62_131_16 : M62 131 16 = M58 131 16 := f61 131 16 (fun q => absurd q.1 (by decide))
            have tM62_133_6 : M62 133 6 = M58 133 6 := f61 133 6 (fun q => absurd q.2 (by decide))
            have tM62_133_1 : M62 133 1 = M58 133 1 := f61 133 1 (fun q => absurd q.2 (by decide))
            have tM62_133_2 : M62 133 2 = M58 133 2 := f61 133 2 (fun q => absurd q.2 (by decide))
            have tM62_133_4 : M62 133 4 = M58 133 4 := f61 133 4 (fun q => absurd q.2 (by decide))
            have hq9 := wl_wr f61 (by omega)
            have hL := hq9.2 hL
            have cM62 := hq9.1
            clear hq9
            have hF := hF.wr f61 (by decide) (by decide)
            have hW : WFk M62 := hW.site f61 (by decide)
            have sf61 : M62 133 3 = v60 := sf61
            exact hret _ 178 _ ⟨hI, hW⟩ ⟨hF, ⟨hL, by omega⟩⟩ dX12_readTouch_178
          · exact hret _ 135 _ ⟨hI, hW⟩ ⟨hF, ⟨hL, by omega⟩⟩ dX12_readTouch_135
        · refine z_iconst F dX12_readTouch_121 ?_
          refine z_goto (tgt := 126) F dX12_readTouch_122 (by decide +kernel) ?_
          refine z_istore F dX12_readTouch_126 (by decide) (ls' := [(4, ii 2), (3, ii v46), (2, ii 0), (1, ii v6), (0, .ref (ad 131))]) rfl ?_
          refine z_aload_n F dX12_readTouch_128 rfl (q := 4) rfl ?_
          refine gf_X12_108 F hI gs_131 rfl bd_131_12 dX12_readTouch_129 (fun v63 ev63 av63 bv63 => ?_)
          refine z_if_eq (tgt := 136) F dX12_readTouch_132 (by decide +kernel) (by omega) (fun c64 => ?_) (fun c64 => ?_)
          · refine z_aload_n F dX12_readTouch_136 rfl (q := 4) rfl ?_
            refine rf_X12_13 F gs_131 rfl dX12_readTouch_137 ?_
            refine z_bipush F dX12_readTouch_140 (by decide +kernel) ?_
            refine z_bipush F dX12_readTouch_142 (by decide +kernel) ?_
            refine z_iload_n F dX12_readTouch_144 rfl (q := 3) rfl ?_
            refine z_imul F dX12_readTouch_145 ?_
            refine z_iadd F dX12_readTouch_146 ?_
            refine z_iload_n F dX12_readTouch_147 rfl (q := 1) rfl ?_
            refine z_iadd F dX12_readTouch_148 ?_
            refine z_iload F dX12_readTouch_149 (q := 0) rfl ?_
            refine z_iast F hI gs_133 (by omega) (by omega) (by decide) (bd_133.trans (kn_touch (by omega) (by omega))) dX12_readTouch_151 (by omega) (by omega) (fun M66 hI sf65 f65 => ?_)
            have tM66_131_7 : M66 131 7 = M50 131 7 := f65 131 7 (fun q => absurd q.1 (by decide))
            have tM66_131_8 : M66 131 8 = M50 131 8 := f65 131 8 (fun q => absurd q.1 (by decide))
            have tM66_131_9 : M66 131 9 = M50 131 9 := f65 131 9 (fun q => absurd q.1 (by decide))
            have tM66_131_10 : M66 131 10 = M50 131 10 := f65 131 10 (fun q => absurd q.1 (by decide))
            have tM66_131_12 : M66 131 12 = M50 131 12 := f65 131 12 (fun q => absurd q.1 (by decide))
            have tM66_131_16 : M66 131 16 = M50 131 16 := f65 131 16 (fun q => absurd q.1 (by decide))
            have tM66_133_6 : M66 133 6 = M50 133 6 := f65 133 6 (fun q => by have := q.2; omega)
            have tM66_133_1 : M66 133 1 = M50 133 1 := f65 133 1 (fun q => by have := q.2; omega)
            have tM66_133_2 : M66 133 2 = M50 133 2 := f65 133 2 (fun q => by have := q.2; omega)
            have tM66_133_4 : M66 133 4 = M50 133 4 := f65 133 4 (fun q => by have := q.2; omega)
            have hq9 := wl_wr f65 (by omega)
            have hL := hq9.2 hL
            have cM66 := hq9.1
            clear hq9
            have hF := hF.wr f65 (by decide) (by decide)
            have hW : WFk M66 := hW.site f65 (by decide)
            refine z_aload_n F dX12_readTouch_152 rfl (q := 4) rfl ?_
            refine rf_X12_13 F gs_131 rfl dX12_readTouch_153 ?_
            refine z_bipush F dX12_readTouch_156 (by decide +kernel) ?_
            refine z_bipush F dX12_readTouch_158 (by decide +kernel) ?_
            refine z_iload_n F dX12_readTouch_160 rfl (q := 1) rfl ?_
            refine z_imul F dX12_readTouch_161 ?_
            refine z_iadd F dX12_readTouch_162 ?_
            refine z_iload_n F dX12_readTouch_163 rfl (q := 3) rfl ?_
            refine z_iadd F dX12_readTouch_164 ?_
            refine z_iload F dX12_readTouch_165 (q := 0) rfl ?_
            refine z_iast F hI gs_133 (by omega) (by omega) (by decide) (bd_133.trans (kn_touch (by omega) (by omega))) dX12_readTouch_167 (by omega) (by omega) (fun M68 hI sf67 f67 => ?_)
            have tM68_131_7 : M68 131 7 = M66 131 7 := f67 131 7 (fun q => absurd q.1 (by decide))
            have tM68_131_8 : M68 131 8 = M66 131 8 := f67 131 8 (fun q => absurd q.1 (by decide))
            have tM68_131_9 : M68 131 9 = M66 131 9 := f67 131 9 (fun q => absurd q.1 (by decide))
            have tM68_131_10 : M68 131 10 = M66 131 10 := f67 131 10 (fun q => absurd q.1 (by decide))
            have tM68_131_12 : M68 131 12 = M66 131 12 := f67 131 12 (fun q => absurd q.1 (by decide))
            have tM68_131_16 : M68 131 16 = M66 131 16 := f67 131 16 (fun q => absurd q.1 (by decide))
            have tM68_133_6 : M68 133 6 = M66 133 6 := f67 133 6 (fun q => by have := q.2; omega)
            have tM68_133_1 : M68 133 1 = M66 133 1 := f67 133 1 (fun q => by have := q.2; omega)
            have tM68_133_2 : M68 133 2 = M66 133 2 := f67 133 2 (fun q => by have := q.2; omega)
            have tM68_133_4 : M68 133 4 = M66 133 4 := f67 133 4 (fun q => by have := q.2; omega)
            have hq9 := wl_wr f67 (by omega)
            have hL := hq9.2 hL
            have cM68 := hq9.1
            clear hq9
            have hF := hF.wr f67 (by decide) (by decide)
            have hW : WFk M68 := hW.site f67 (by decide)
            refine z_aload_n F dX12_readTouch_168 rfl (q := 4) rfl ?_
            refine rf_X12_13 F gs_131 rfl dX12_readTouch_169 ?_
            refine z_iconst F dX12_readTouch_172 ?_
            refine z_dup2 F dX12_readTouch_173 rfl rfl ?_
            refine z_iald F hI gs_133 (by omega) (by omega) (by decide) (show Bd 133 3 = (-2147483648, 2147483647) from rfl) dX12_readTouch_174 (fun v69 (ev69 : v69 = M68 133 3) av69 bv69 => ?_)
            refine z_iconst F dX12_readTouch_175 ?_
            refine z_iadd F dX12_readTouch_176 ?_
            refine z_wrap (fun v70 rv70 wv70 => ?_)
            refine z_iast F hI gs_133 (by omega) (by omega) (by decide) (show Bd 133 3 = (-2147483648, 2147483647) from rfl) dX12_readTouch_177 (by omega) (by omega) (fun M72 hI sf71 f71 => ?_)
            have tM72_131_7 : M72 131 7 = M68 131 7 := f71 131 7 (fun q => absurd q.1 (by decide))
            have tM72_131_8 : M72 131 8 = M68 131 8 := f71 131 8 (fun q => absurd q.1 (by decide))
            have tM72_131_9 : M72 131 9 = M68 131 9 := f71 131 9 (fun q => absurd q.1 (by decide))
            have tM72_131_10 : M72 131 10 = M68 131 10 := f71 131 10 (fun q => absurd q.1 (by decide))
            have tM72_131_12 : M72 131 12 = M68 131 12 := f71 131 12 (fun q => absurd q.1 (by decide))
            have tM72_131_16 : M72 131 16 = M68 131 16 := f71 131 16 (fun q => absurd q.1 (by decide))
            have tM72_133_6 : M72 133 6 = M68 133 6 := f71 133 6 (fun q => absurd q.2 (by decide))
            have tM72_133_1 : M72 133 1 = M68 133 1 := f71 133 1 (fun q => absurd q.2 (by decide))
            have tM72_133_2 : M72 133 2 = M68 133 2 := f71 133 2 (fun q => absurd q.2 (by decide))
            have tM72_133_4 : M72 133 4 = M68 133 4 := f71 133 4 (fun q => absurd q.2 (by decide))
            have hq9 := wl_wr f71 (by omega)
            have hL := hq9.2 hL
            have cM72 := hq9.1
            clear hq9
            have hF := hF.wr f71 (by decide) (by decide)
            have hW : WFk M72 := hW.site f71 (by decide)
            have sf71 : M72 133 3 = v70 := sf71
            exact hret _ 178 _ ⟨hI, hW⟩ ⟨hF, ⟨hL, by omega⟩⟩ dX12_readTouch_178
          · exact hret _ 135 _ ⟨hI, hW⟩ ⟨hF, ⟨hL, by omega⟩⟩ dX12_readTouch_135
      · refine z_aload_n F dX12_readTouch_40 rfl (q := 1) rfl ?_
        refine gf_X12_102 F hI gs_131 rfl bd_131_11 dX12_readTouch_41 (fun v73 ev73 av73 bv73 => ?_)
        refine z_iload_n F dX12_readTouch_44 rfl (q := 0) rfl ?_
        refine z_icmp_eq (tgt := 83) F dX12_readTouch_45 (by decide +kernel) (by omega) (by omega) (fun c74 => ?_) (fun c74 => ?_)
        · refine z_iconst F dX12_readTouch_83 ?_
          refine z_goto (tgt := 88) F dX12_readTouch_84 (by decide +kernel) ?_
          refine z_istore_n F dX12_readTouch_88 rfl (by decide) (ls' := [(2, ii 1), (1, ii v6), (0, .ref (ad 131))]) rfl ?_
          refine z_iload_n F dX12_readTouch_89 rfl (q := 0) rfl ?_
          refine z_if_eq (tgt := 98) F dX12_readTouch_90 (by decide +kernel) (by omega) (fun c75 => by exfalso; omega) (fun c75 => ?_)
          refine z_aload_n F dX12_readTouch_93 rfl (q := 2) rfl ?_
          refine z_iconst F dX12_readTouch_94 ?_
          refine zv_v (rest := []) F (kp_X12_blames l M7 ⟨hI, hW⟩ 3 (by omega) (by omega)) cs_X12_133 (T := TX12) (N := 44) (ci := 12) rfl gs_131 (by decide) (by decide) rfl rfl rfl (Nat.le_of_ble_eq_true rfl) dX12_readTouch_95 (fun M76 hI p77 => ?_)
          obtain ⟨hI, hW⟩ := hI
          obtain ⟨fp77, xp77⟩ := p77
          have hF := hF.call fp77 (by decide)
          have tM76_133_6 : M76 133 6 = M7 133 6 := fp77.at (by decide)
          have tM76_133_1 : M76 133 1 = M7 133 1 := fp77.at (by decide)
          have tM76_133_2 : M76 133 2 = M7 133 2 := fp77.at (by decide)
          have tM76_133_4 : M76 133 4 = M7 133 4 := fp77.at (by decide)
          have hq9 := wl_fr fp77 (by decide)
          have hL := hq9.2 hL
          have cM76 := hq9.1
          clear hq9
          refine z_aload_n F dX12_readTouch_98 rfl (q := 2) rfl ?_
          refine z_iconst F dX12_readTouch_99 ?_
          refine z_aload_n F dX12_readTouch_100 rfl (q := 2) rfl ?_
          refine rf_X12_13 F gs_131 rfl dX12_readTouch_101 ?_
          refine z_iconst F dX12_readTouch_104 ?_
          refine z_iald F hI gs_133 (by omega) (by omega) (by decide) (show Bd 133 1 = (0, 10) from rfl) dX12_readTouch_105 (fun v78 (ev78 : v78 = M76 133 1) av78 bv78 => ?_)
          have q79 : v5 = M7 133 1 := ev5.trans ((fp8.at (by decide)) : M7 133 1 = _).symm
          have q80 : v5 = M76 133 1 := q79.trans ((fp77.at (by decide)) : M76 133 1 = _).symm
          have zv78 : v5 = v78 := q80.trans ev78.symm
          subst zv78
          refine z_iconst F dX12_readTouch_106 ?_
          refine z_isub F dX12_readTouch_107 ?_
          refine zv_i (rest := []) F (kp_X12_number l M76 ⟨hI, hW⟩ 0 (by omega) (by omega) (v5 - 1) (by omega) (by omega) (by omega)) cs_X12_199 (T := TX12) (N := 44) (ci := 12) rfl gs_131 (by decide) (by decide) rfl rfl rfl (Nat.le_of_ble_eq_true rfl) dX12_readTouch_108 (fun v81 M82 rv81 hI p83 => ?_)
          obtain ⟨hI, hW⟩ := hI
          obtain ⟨⟨av81, bv81⟩, fp83, xp83⟩ := p83
          have hF := hF.call fp83 (by decide)
          have tM82_133_6 : M82 133 6 = M76 133 6 := fp83.at (by decide)
          have tM82_133_1 : M82 133 1 = M76 133 1 := fp83.at (by decide)
          have tM82_133_2 : M82 133 2 = M76 133 2 := fp83.at (by decide)
          have tM82_133_4 : M82 133 4 = M76 133 4 := fp83.at (by decide)
          have hq9 := wl_fr fp83 (by decide)
          have hL := hq9.2 hL
          have cM82 := hq9.1
          clear hq9
          have hkv81 : 0 ≤ v81 ∧ v81 ≤ 9 := by omega
          refine z_istore_n F dX12_readTouch_111 rfl (by decide) (ls' := [(3, ii v81), (2, ii 1), (1, ii v6), (0, .ref (ad 131))]) rfl ?_
          refine z_aload_n F dX12_readTouch_112 rfl (q := 3) rfl ?_
          refine z_ldcS (j := 59) F dX12_readTouch_113 rfl rfl rfl ?_
          refine z_eq (st' := [.ref (ad 1059), .ref (ad 131)]) rfl rfl rfl ?_
          refine zv_i (rest := []) F (kp_X12_took_131_1059 l M82 ⟨hI, hW⟩ (by omega)) cs_X12_130 (T := TX12) (N := 44) (ci := 12) rfl gs_131 (by decide) (by decide) rfl rfl rfl (Nat.le_of_ble_eq_true rfl) dX12_readTouch_115 (fun v84 M85 rv84 hI p86 => ?_)
          obtain ⟨hI, hW⟩ := hI
          obtain ⟨⟨av84, bv84⟩, fp86, xp86⟩ := p86
          have hF := hF.call fp86 (by decide)
          have tM85_133_6 : M85 133 6 = M82 133 6 := fp86.at (by decide)
          have tM85_133_1 : M85 133 1 = M82 133 1 := fp86.at (by decide)
          have tM85_133_2 : M85 133 2 = M82 133 2 := fp86.at (by decide)
          have tM85_133_4 : M85 133 4 = M82 133 4 := fp86.at (by decide)
          have hq9 := wl_fr fp86 (by decide)
          have hL := hq9.2 hL
          have cM85 := hq9.1
          clear hq9
          refine z_if_eq (tgt := 125) F dX12_readTouch_118 (by decide +kernel) (by omega) (fun c87 => ?_) (fun c87 => ?_)
          · refine z_iconst F dX12_readTouch_125 ?_
            refine z_istore F dX12_readTouch_126 (by decide) (ls' := [(4, ii 1), (3, ii v81), (2, ii 1), (1, ii v6), (0, .ref (ad 131))]) rfl ?_
            refine z_aload_n F dX12_readTouch_128 rfl (q := 4) rfl ?_
            refine gf_X12_108 F hI gs_131 rfl bd_131_12 dX12_readTouch_129 (fun v88 ev88 av88 bv88 => ?_)
            refine z_if_eq (tgt := 136) F dX12_readTouch_132 (by decide +kernel) (by omega) (fun c89 => ?_) (fun c89 => ?_)
            · refine z_aload_n F dX12_readTouch_136 rfl (q := 4) rfl ?_
              refine rf_X12_13 F gs_131 rfl dX12_readTouch_137 ?_
              refine z_bipush F dX12_readTouch_140 (by decide +kernel) ?_
              refine z_bipush F dX12_readTouch_142 (by decide +kernel) ?_
              refine z_iload_n F dX12_readTouch_144 rfl (q := 3) rfl ?_
              refine z_imul F dX12_readTouch_145 ?_
              refine z_iadd F dX12_readTouch_146 ?_
              refine z_iload_n F dX12_readTouch_147 rfl (q := 1) rfl ?_
              refine z_iadd F dX12_readTouch_148 ?_
              refine z_iload F dX12_readTouch_149 (q := 0) rfl ?_
              refine z_iast F hI gs_133 (by omega) (by omega) (by decide) (bd_133.trans (kn_touch (by omega) (by omega))) dX12_readTouch_151 (by omega) (by omega) (fun M91 hI sf90 f90 => ?_)
              have tM91_131_7 : M91 131 7 = M85 131 7 := f90 131 7 (fun q => absurd q.1 (by decide))
              have tM91_131_8 : M91 131 8 = M85 131 8 := f90 131 8 (fun q => absurd q.1 (by decide))
              have tM91_131_9 : M91 131 9 = M85 131 9 := f90 131 9 (fun q => absurd q.1 (by decide))
              have tM91_131_10 : M91 131 10 = M85 131 10 := f90 131 10 (fun q => absurd q.1 (by decide))
              have tM91_131_12 : M91 131 12 = M85 131 12 := f90 131 12 (fun q => absurd q.1 (by decide))
              have tM91_131_16 : M91 131 16 = M85 131 16 := f90 131 16 (fun q => absurd q.1 (by decide))
              have tM91_133_6 : M91 133 6 = M85 133 6 := f90 133 6 (fun q => by have := q.2; omega)
              have tM91_133_1 : M91 133 1 = M85 133 1 := f90 133 1 (fun q => by have := q.2; omega)
              have tM91_133_2 : M91 133 2 = M85 133 2 := f90 133 2 (fun q => by have := q.2; omega)
              have tM91_133_4 : M91 133 4 = M85 133 4 := f90 133 4 (fun q => by have := q.2; omega)
              have hq9 := wl_wr f90 (by omega)
              have hL := hq9.2 hL
              have cM91 := hq9.1
              clear hq9
              have hF := hF.wr f90 (by decide) (by decide)
              have hW : WFk M91 := hW.site f90 (by decide)
              refine z_aload_n F dX12_readTouch_152 rfl (q := 4) rfl ?_
              refine rf_X12_13 F gs_131 rfl dX12_readTouch_153 ?_
              refine z_bipush F dX12_readTouch_156 (by decide +kernel) ?_
              refine z_bipush F dX12_readTouch_158 (by decide +kernel) ?_
              refine z_iload_n F dX12_readTouch_160 rfl (q := 1) rfl ?_
              refine z_imul F dX12_readTouch_161 ?_
              refine z_iadd F dX12_readTouch_162 ?_
              refine z_iload_n F dX12_readTouch_163 rfl (q := 3) rfl ?_
              refine z_iadd F dX12_readTouch_164 ?_
              refine z_iload F dX12_readTouch_165 (q := 0) rfl ?_
              refine z_iast F hI gs_133 (by omega) (by omega) (by decide) (bd_133.trans (kn_touch (by omega) (by omega))) dX12_readTouch_167 (by omega) (by omega) (fun M93 hI sf92 f92 => ?_)
              have tM93_131_7 : M93 131 7 = M91 131 7 := f92 131 7 (fun q => absurd q.1 (by decide))
              have tM93_131_8 : M93 131 8 = M91 131 8 := f92 131 8 (fun q => absurd q.1 (by decide))
              have tM93_131_9 : M93 131 9 = M91 131 9 := f92 131 9 (fun q => absurd q.1 (by decide))
              have tM93_131_10 : M93 131 10 = M91 131 10 := f92 131 10 (fun q => absurd q.1 (by decide))
              have tM93_131_12 : M93 131 12 = M91 131 12 := f92 131 12 (fun q => absurd q.1 (by decide))
              have tM93_131_16 : M93 131 16 = M91 131 16 := f92 131 16 (fun q => absurd q.1 (by decide))
              have tM93_133_6 : M93 133 6 = M91 133 6 := f92 133 6 (fun q => by have := q.2; omega)
              have tM93_133_1 : M93 133 1 = M91 133 1 := f92 133 1 (fun q => by have := q.2; omega)
              have tM93_133_2 : M93 133 2 = M91 133 2 := f92 133 2 (fun q => by have := q.2; omega)
              have tM93_133_4 : M93 133 4 = M91 133 4 := f92 133 4 (fun q => by have := q.2; omega)
              have hq9 := wl_wr f92 (by omega)
              have hL := hq9.2 hL
              have cM93 := hq9.1
              clear hq9
              have hF := hF.wr f92 (by decide) (by decide)
              have hW : WFk M93 := hW.site f92 (by decide)
              refine z_aload_n F dX12_readTouch_168 rfl (q := 4) rfl ?_
              refine rf_X12_13 F gs_131 rfl dX12_readTouch_169 ?_
              refine z_iconst F dX12_readTouch_172 ?_
              refine z_dup2 F dX12_readTouch_173 rfl rfl ?_
              refine z_iald F hI gs_133 (by omega) (by omega) (by decide) (show Bd 133 3 = (-2147483648, 2147483647) from rfl) dX12_readTouch_174 (fun v94 (ev94 : v94 = M93 133 3) av94 bv94 => ?_)
              refine z_iconst F dX12_readTouch_175 ?_
              refine z_iadd F dX12_readTouch_176 ?_
              refine z_wrap (fun v95 rv95 wv95 => ?_)
              refine z_iast F hI gs_133 (by omega) (by omega) (by decide) (show Bd 133 3 = (-2147483648, 2147483647) from rfl) dX12_readTouch_177 (by omega) (by omega) (fun M97 hI sf96 f96 => ?_)
              have tM97_131_7 : M97 131 7 = M93 131 7 := f96 131 7 (fun q => absurd q.1 (by decide))
              have tM97_131_8 : M97 131 8 = M93 131 8 := f96 131 8 (fun q => absurd q.1 (by decide))
              have tM97_131_9 : M97 131 9 = M93 131 9 := f96 131 9 (fun q => absurd q.1 (by decide))
              have tM97_131_10 : M97 131 10 = M93 131 10 := f96 131 10 (fun q => absurd q.1 (by decide))
              have tM97_131_12 : M97 131 12 = M93 131 12 := f96 131 12 (fun q => absurd q.1 (by decide))
              have tM97_131_16 : M97 131 16 = M93 131 16 := f96 131 16 (fun q => absurd q.1 (by decide))
              have tM97_133_6 : M97 133 6 = M93 133 6 := f96 133 6 (fun q => absurd q.2 (by decide))
              have tM97_133_1 : M97 133 1 = M93 133 1 := f96 133 1 (fun q => absurd q.2 (by decide))
              have tM97_133_2 : M97 133 2 = M93 133 2 := f96 133 2 (fun q => absurd q.2 (by decide))
              have tM97_133_4 : M97 133 4 = M93 133 4 := f96 133 4 (fun q => absurd q.2 (by decide))
              have hq9 := wl_wr f96 (by omega)
              have hL := hq9.2 hL
              have cM97 := hq9.1
              clear hq9
              have hF := hF.wr f96 (by decide) (by decide)
              have hW : WFk M97 := hW.site f96 (by decide)
              have sf96 : M97 133 3 = v95 := sf96
              exact hret _ 178 _ ⟨hI, hW⟩ ⟨hF, ⟨hL, by omega⟩⟩ dX12_readTouch_178
            · exact hret _ 135 _ ⟨hI, hW⟩ ⟨hF, ⟨hL, by omega⟩⟩ dX12_readTouch_135
          · refine z_iconst F dX12_readTouch_121 ?_
            refine z_goto (tgt := 126) F dX12_readTouch_122 (by decide +kernel) ?_
            refine z_istore F dX12_readTouch_126 (by decide) (ls' := [(4, ii 2), (3, ii v81), (2, ii 1), (1, ii v6), (0, .ref (ad 131))]) rfl ?_
            refine z_aload_n F dX12_readTouch_128 rfl (q := 4) rfl ?_
            refine gf_X12_108 F hI gs_131 rfl bd_131_12 dX12_readTouch_129 (fun v98 ev98 av98 bv98 => ?_)
            refine z_if_eq (tgt := 136) F dX12_readTouch_132 (by decide +kernel) (by omega) (fun c99 => ?_) (fun c99 => ?_)
            · refine z_aload_n F dX12_readTouch_136 rfl (q := 4) rfl ?_
              refine rf_X12_13 F gs_131 rfl dX12_readTouch_137 ?_
              refine z_bipush F dX12_readTouch_140 (by decide +kernel) ?_
              refine z_bipush F dX12_readTouch_142 (by decide +kernel) ?_
              refine z_iload_n F dX12_readTouch_144 rfl (q := 3) rfl ?_
              refine z_imul F dX12_readTouch_145 ?_
              refine z_iadd F dX12_readTouch_146 ?_
              refine z_iload_n F dX12_readTouch_147 rfl (q := 1) rfl ?_
              refine z_iadd F dX12_readTouch_148 ?_
              refine z_iload F dX12_readTouch_149 (q := 0) rfl ?_
              refine z_iast F hI gs_133 (by omega) (by omega) (by decide) (bd_133.trans (kn_touch (by omega) (by omega))) dX12_readTouch_151 (by omega) (by omega) (fun M101 hI sf100 f100 => ?_)
              have tM101_131_7 : M101 131 7 = M85 131 7 := f100 131 7 (fun q => absurd q.1 (by decide))
              have tM101_131_8 : M101 131 8 = M85 131 8 := f100 131 8 (fun q => absurd q.1 (by decide))
              have tM101_131_9 : M101 131 9 = M85 131 9 := f100 131 9 (fun q => absurd q.1 (by decide))
              have tM101_131_10 : M101 131 10 = M85 131 10 := f100 131 10 (fun q => absurd q.1 (by decide))
              have tM101_131_12 : M101 131 12 = M85 131 12 := f100 131 12 (fun q => absurd q.1 (by decide))
              have tM101_131_16 : M101 131 16 = M85 131 16 := f100 131 16 (fun q => absurd q.1 (by decide))
              have tM101_133_6 : M101 133 6 = M85 133 6 := f100 133 6 (fun q => by have := q.2; omega)
              have tM101_133_1 : M101 133 1 = M85 133 1 := f100 133 1 (fun q => by have := q.2; omega)
              have tM101_133_2 : M101 133 2 = M85 133 2 := f100 133 2 (fun q => by have := q.2; omega)
              have tM101_133_4 : M101 133 4 = M85 133 4 := f100 133 4 (fun q => by have := q.2; omega)
              have hq9 := wl_wr f100 (by omega)
              have hL := hq9.2 hL
              have cM101 := hq9.1
              clear hq9
              have hF := hF.wr f100 (by decide) (by decide)
              have hW : WFk M101 := hW.site f100 (by decide)
              refine z_aload_n F dX12_readTouch_152 rfl (q := 4) rfl ?_
              refine rf_X12_13 F gs_131 rfl dX12_readTouch_153 ?_
              refine z_bipush F dX12_readTouch_156 (by decide +kernel) ?_
              refine z_bipush F dX12_readTouch_158 (by decide +kernel) ?_
              refine z_iload_n F dX12_readTouch_160 rfl (q := 1) rfl ?_
              refine z_imul F dX12_readTouch_161 ?_
              refine z_iadd F dX12_readTouch_162 ?_
              refine z_iload_n F dX12_readTouch_163 rfl (q := 3) rfl ?_
              refine z_iadd F dX12_readTouch_164 ?_
              refine z_iload F dX12_readTouch_165 (q := 0) rfl ?_
              refine z_iast F hI gs_133 (by omega) (by omega) (by decide) (bd_133.trans (kn_touch (by omega) (by omega))) dX12_readTouch_167 (by omega) (by omega) (fun M103 hI sf102 f102 => ?_)
              have tM103_131_7 : M103 131 7 = M101 131 7 := f102 131 7 (fun q => absurd q.1 (by decide))
              have tM103_131_8 : M103 131 8 = M101 131 8 := f102 131 8 (fun q => absurd q.1 (by decide))
              have tM103_131_9 : M103 131 9 = M101 131 9 := f102 131 9 (fun q => absurd q.1 (by decide))
              have tM103_131_10 : M103 131 10 = M101 131 10 := f102 131 10 (fun q => absurd q.1 (by decide))
              have tM103_131_12 : M103 131 12 = M101 131 12 := f102 131 12 (fun q => absurd q.1 (by decide))
              have tM103_131_16 : M103 131 16 = M101 131 16 := f102 131 16 (fun q => absurd q.1 (by decide))
              have tM103_133_6 : M103 133 6 = M101 133 6 := f102 133 6 (fun q => by have := q.2; omega)
              have tM103_133_1 : M103 133 1 = M101 133 1 := f102 133 1 (fun q => by have := q.2; omega)
              have tM103_133_2 : M103 133 2 = M101 133 2 := f102 133 2 (fun q => by have := q.2; omega)
              have tM103_133_4 : M103 133 4 = M101 133 4 := f102 133 4 (fun q => by have := q.2; omega)
              have hq9 := wl_wr f102 (by omega)
              have hL := hq9.2 hL
              have cM103 := hq9.1
              clear hq9
              have hF := hF.wr f102 (by decide) (by decide)
              have hW : WFk M103 := hW.site f102 (by decide)
              refine z_aload_n F dX12_readTouch_168 rfl (q := 4) rfl ?_
              refine rf_X12_13 F gs_131 rfl dX12_readTouch_169 ?_
              refine z_iconst F dX12_readTouch_172 ?_
              refine z_dup2 F dX12_readTouch_173 rfl rfl ?_
              refine z_iald F hI gs_133 (by omega) (by omega) (by decide) (show Bd 133 3 = (-2147483648, 2147483647) from rfl) dX12_readTouch_174 (fun v104 (ev104 : v104 = M103 133 3) av104 bv104 => ?_)
              refine z_iconst F dX12_readTouch_175 ?_
              refine z_iadd F dX12_readTouch_176 ?_
              refine z_wrap (fun v105 rv105 wv105 => ?_)
              refine z_iast F hI gs_133 (by omega) (by omega) (by decide) (show Bd 133 3 = (-2147483648, 2147483647) from rfl) dX12_readTouch_177 (by omega) (by omega) (fun M107 hI sf106 f106 => ?_)
              have tM107_131_7 : M107 131 7 = M103 131 7 := f106 131 7 (fun q => absurd q.1 (by decide))
              have tM107_131_8 : M107 131 8 = M103 131 8 := f106 131 8 (fun q => absurd q.1 (by decide))
              have tM107_131_9 : M107 131 9 = M103 131 9 := f106 131 9 (fun q => absurd q.1 (by decide))
              have tM107_131_10 : M107 131 10 = M103 131 10 := f106 131 10 (fun q => absurd q.1 (by decide))
              have tM107_131_12 : M107 131 12 = M103 131 12 := f106 131 12 (fun q => absurd q.1 (by decide))
              have tM107_131_16 : M107 131 16 = M103 131 16 := f106 131 16 (fun q => absurd q.1 (by decide))
              have tM107_133_6 : M107 133 6 = M103 133 6 := f106 133 6 (fun q => absurd q.2 (by decide))
              have tM107_133_1 : M107 133 1 = M103 133 1 := f106 133 1 (fun q => absurd q.2 (by decide))
              have tM107_133_2 : M107 133 2 = M103 133 2 := f106 133 2 (fun q => absurd q.2 (by decide))
              have tM107_133_4 : M107 133 4 = M103 133 4 := f106 133 4 (fun q => absurd q.2 (by decide))
              have hq9 := wl_wr f106 (by omega)
              have hL := hq9.2 hL
              have cM107 := hq9.1
              clear hq9
              have hF := hF.wr f106 (by decide) (by decide)
              have hW : WFk M107 := hW.site f106 (by decide)
              have sf106 : M107 133 3 = v105 := sf106
              exact hret _ 178 _ ⟨hI, hW⟩ ⟨hF, ⟨hL, by omega⟩⟩ dX12_readTouch_178
            · exact hret _ 135 _ ⟨hI, hW⟩ ⟨hF, ⟨hL, by omega⟩⟩ dX12_readTouch_135
        · refine z_aload_n F dX12_readTouch_48 rfl (q := 1) rfl ?_
          refine gf_X12_102 F hI gs_131 rfl bd_131_11 dX12_readTouch_49 (fun v108 ev108 av108 bv108 => ?_)
          have zv108 : v73 = v108 := ev73.trans ev108.symm
          subst zv108
          refine z_i2l F dX12_readTouch_52 (by omega) ?_
          refine z_lconst (x := 0) F dX12_readTouch_53 (by decide +kernel) ?_
          refine z_ldc2 (x := 9) F dX12_readTouch_54 (gin lm_147 rfl) (by decide +kernel) ?_
          refine zs_i (rest := []) F (k_X12_within l M7 ⟨hI, hW⟩ v73 (by omega) (by omega) 0 (by omega) (by omega) 9 (by omega) (by omega)) cs_X12_137 (by decide) (by decide) rfl rfl rfl (Nat.le_of_ble_eq_true rfl) dX12_readTouch_57 (fun v109 M110 rv109 hI p111 => ?_)
          obtain ⟨hI, hW⟩ := hI
          obtain ⟨⟨av109, bv109⟩, rfl, xp111⟩ := p111
          refine z_if_eq (tgt := 87) F dX12_readTouch_60 (by decide +kernel) (by omega) (fun c112 => ?_) (fun c112 => ?_)
          · refine z_iconst F dX12_readTouch_87 ?_
            refine z_istore_n F dX12_readTouch_88 rfl (by decide) (ls' := [(2, ii 0), (1, ii v6), (0, .ref (ad 131))]) rfl ?_
            refine z_iload_n F dX12_readTouch_89 rfl (q := 0) rfl ?_
            refine z_if_eq (tgt := 98) F dX12_readTouch_90 (by decide +kernel) (by omega) (fun c113 => ?_) (fun c113 => by exfalso; omega)
            refine z_aload_n F dX12_readTouch_98 rfl (q := 2) rfl ?_
            refine z_iconst F dX12_readTouch_99 ?_
            refine z_aload_n F dX12_readTouch_100 rfl (q := 2) rfl ?_
            refine rf_X12_13 F gs_131 rfl dX12_readTouch_101 ?_
            refine z_iconst F dX12_readTouch_104 ?_
            refine z_iald F hI gs_133 (by omega) (by omega) (by decide) (show Bd 133 1 = (0, 10) from rfl) dX12_readTouch_105 (fun v114 (ev114 : v114 = M7 133 1) av114 bv114 => ?_)
            have q115 : v5 = M7 133 1 := ev5.trans ((fp8.at (by decide)) : M7 133 1 = _).symm
            have zv114 : v5 = v114 := q115.trans ev114.symm
            subst zv114
            refine z_iconst F dX12_readTouch_106 ?_
            refine z_isub F dX12_readTouch_107 ?_
            refine zv_i (rest := []) F (kp_X12_number l M7 ⟨hI, hW⟩ 0 (by omega) (by omega) (v5 - 1) (by omega) (by omega) (by omega)) cs_X12_199 (T := TX12) (N := 44) (ci := 12) rfl gs_131 (by decide) (by decide) rfl rfl rfl (Nat.le_of_ble_eq_true rfl) dX12_readTouch_108 (fun v116 M117 rv116 hI p118 => ?_)
            obtain ⟨hI, hW⟩ := hI
            obtain ⟨⟨av116, bv116⟩, fp118, xp118⟩ := p118
            have hF := hF.call fp118 (by decide)
            have tM117_133_6 : M117 133 6 = M7 133 6 := fp118.at (by decide)
            have tM117_133_1 : M117 133 1 = M7 133 1 := fp118.at (by decide)
            have tM117_133_2 : M117 133 2 = M7 133 2 := fp118.at (by decide)
            have tM117_133_4 : M117 133 4 = M7 133 4 := fp118.at (by decide)
            have hq9 := wl_fr fp118 (by decide)
            have hL := hq9.2 hL
            have cM117 := hq9.1
            clear hq9
            have hkv116 : 0 ≤ v116 ∧ v116 ≤ 9 := by omega
            refine z_istore_n F dX12_readTouch_111 rfl (by decide) (ls' := [(3, ii v116), (2, ii 0), (1, ii v6), (0, .ref (ad 131))]) rfl ?_
            refine z_aload_n F dX12_readTouch_112 rfl (q := 3) rfl ?_
            refine z_ldcS (j := 59) F dX12_readTouch_113 rfl rfl rfl ?_
            refine z_eq (st' := [.ref (ad 1059), .ref (ad 131)]) rfl rfl rfl ?_
            refine zv_i (rest := []) F (kp_X12_took_131_1059 l M117 ⟨hI, hW⟩ (by omega)) cs_X12_130 (T := TX12) (N := 44) (ci := 12) rfl gs_131 (by decide) (by decide) rfl rfl rfl (Nat.le_of_ble_eq_true rfl) dX12_readTouch_115 (fun v119 M120 rv119 hI p121 => ?_)
            obtain ⟨hI, hW⟩ := hI
            obtain ⟨⟨av119, bv119⟩, fp121, xp121⟩ := p121
            have hF := hF.call fp121 (by decide)
            have tM120_133_6 : M120 133 6 = M117 133 6 := fp121.at (by decide)
            have tM120_133_1 : M120 133 1 = M117 133 1 := fp121.at (by decide)
            have tM120_133_2 : M120 133 2 = M117 133 2 := fp121.at (by decide)
            have tM120_133_4 : M120 133 4 = M117 133 4 := fp121.at (by decide)
            have hq9 := wl_fr fp121 (by decide)
            have hL := hq9.2 hL
            have cM120 := hq9.1
            clear hq9
            refine z_if_eq (tgt := 125) F dX12_readTouch_118 (by decide +kernel) (by omega) (fun c122 => ?_) (fun c122 => ?_)
            · refine z_iconst F dX12_readTouch_125 ?_
              refine z_istore F dX12_readTouch_126 (by decide) (ls' := [(4, ii 1), (3, ii v116), (2, ii 0), (1, ii v6), (0, .ref (ad 131))]) rfl ?_
              refine z_aload_n F dX12_readTouch_128 rfl (q := 4) rfl ?_
              refine gf_X12_108 F hI gs_131 rfl bd_131_12 dX12_readTouch_129 (fun v123 ev123 av123 bv123 => ?_)
              refine z_if_eq (tgt := 136) F dX12_readTouch_132 (by decide +kernel) (by omega) (fun c124 => ?_) (fun c124 => ?_)
              · refine z_aload_n F dX12_readTouch_136 rfl (q := 4) rfl ?_
                refine rf_X12_13 F gs_131 rfl dX12_readTouch_137 ?_
                refine z_bipush F dX12_readTouch_140 (by decide +kernel) ?_
                refine z_bipush F dX12_readTouch_142 (by decide +kernel) ?_
                refine z_iload_n F dX12_readTouch_144 rfl (q := 3) rfl ?_
                refine z_imul F dX12_readTouch_145 ?_
                refine z_iadd F dX12_readTouch_146 ?_
                refine z_iload_n F dX12_readTouch_147 rfl (q := 1) rfl ?_
                refine z_iadd F dX12_readTouch_148 ?_
                refine z_iload F dX12_readTouch_149 (q := 0) rfl ?_
                refine z_iast F hI gs_133 (by omega) (by omega) (by decide) (bd_133.trans (kn_touch (by omega) (by omega))) dX12_readTouch_151 (by omega) (by omega) (fun M126 hI sf125 f125 => ?_)
                have tM126_131_7 : M126 131 7 = M120 131 7 := f125 131 7 (fun q => absurd q.1 (by decide))
                have tM126_131_8 : M126 131 8 = M120 131 8 := f125 131 8 (fun q => absurd q.1 (by decide))
                have tM126_131_9 : M126 131 9 = M120 131 9 := f125 131 9 (fun q => absurd q.1 (by decide))
                have tM126_131_10 : M126 131 10 = M120 131 10 := f125 131 10 (fun q => absurd q.1 (by decide))
                have tM126_131_12 : M126 131 12 = M120 131 12 := f125 131 12 (fun q => absurd q.1 (by decide))
                have tM126_131_16 : M126 131 16 = M120 131 16 := f125 131 16 (fun q => absurd q.1 (by decide))
                have tM126_133_6 : M126 133 6 = M120 133 6 := f125 133 6 (fun q => by have := q.2; omega)
                have tM126_133_1 : M126 133 1 = M120 133 1 := f125 133 1 (fun q => by have := q.2; omega)
                have tM126_133_2 : M126 133 2 = M120 133 2 := f125 133 2 (fun q => by have := q.2; omega)
                have tM126_133_4 : M126 133 4 = M120 133 4 := f125 133 4 (fun q => by have := q.2; omega)
                have hq9 := wl_wr f125 (by omega)
                have hL := hq9.2 hL
                have cM126 := hq9.1
                clear hq9
                have hF := hF.wr f125 (by decide) (by decide)
                have hW : WFk M126 := hW.site f125 (by decide)
                refine z_aload_n F dX12_readTouch_152 rfl (q := 4) rfl ?_
                refine rf_X12_13 F gs_131 rfl dX12_readTouch_153 ?_
                refine z_bipush F dX12_readTouch_156 (by decide +kernel) ?_
                refine z_bipush F dX12_readTouch_158 (by decide +kernel) ?_
                refine z_iload_n F dX12_readTouch_160 rfl (q := 1) rfl ?_
                refine z_imul F dX12_readTouch_161 ?_
                refine z_iadd F dX12_readTouch_162 ?_
                refine z_iload_n F dX12_readTouch_163 rfl (q := 3) rfl ?_
                refine z_iadd F dX12_readTouch_164 ?_
                refine z_iload F dX12_readTouch_165 (q := 0) rfl ?_
                refine z_iast F hI gs_133 (by omega) (by omega) (by decide) (bd_133.trans (kn_touch (by omega) (by omega))) dX12_readTouch_167 (by omega) (by omega) (fun M128 hI sf127 f127 => ?_)
                have tM128_131_7 : M128 131 7 = M126 131 7 := f127 131 7 (fun q => absurd q.1 (by decide))
                have tM128_131_8 : M128 131 8 = M126 131 8 := f127 131 8 (fun q => absurd q.1 (by decide))
                have tM128_131_9 : M128 131 9 = M126 131 9 := f127 131 9 (fun q => absurd q.1 (by decide))
                have tM128_131_10 : M128 131 10 = M126 131 10 := f127 131 10 (fun q => absurd q.1 (by decide))
                have tM128_131_12 : M128 131 12 = M126 131 12 := f127 131 12 (fun q => absurd q.1 (by decide))
                have tM128_131_16 : M128 131 16 = M126 131 16 := f127 131 16 (fun q => absurd q.1 (by decide))
                have tM128_133_6 : M128 133 6 = M126 133 6 := f127 133 6 (fun q => by have := q.2; omega)
                have tM128_133_1 : M128 133 1 = M126 133 1 := f127 133 1 (fun q => by have := q.2; omega)
                have tM128_133_2 : M128 133 2 = M126 133 2 := f127 133 2 (fun q => by have := q.2; omega)
                have tM128_133_4 : M128 133 4 = M126 133 4 := f127 133 4 (fun q => by have := q.2; omega)
                have hq9 := wl_wr f127 (by omega)
                have hL := hq9.2 hL
                have cM128 := hq9.1
                clear hq9
                have hF := hF.wr f127 (by decide) (by decide)
                have hW : WFk M128 := hW.site f127 (by decide)
                refine z_aload_n F dX12_readTouch_168 rfl (q := 4) rfl ?_
                refine rf_X12_13 F gs_131 rfl dX12_readTouch_169 ?_
                refine z_iconst F dX12_readTouch_172 ?_
                refine z_dup2 F dX12_readTouch_173 rfl rfl ?_
                refine z_iald F hI gs_133 (by omega) (by omega) (by decide) (show Bd 133 3 = (-2147483648, 2147483647) from rfl) dX12_readTouch_174 (fun v129 (ev129 : v129 = M128 133 3) av129 bv129 => ?_)
                refine z_iconst F dX12_readTouch_175 ?_
                refine z_iadd F dX12_readTouch_176 ?_
                refine z_wrap (fun v130 rv130 wv130 => ?_)
                refine z_iast F hI gs_133 (by omega) (by omega) (by decide) (show Bd 133 3 = (-2147483648, 2147483647) from rfl) dX12_readTouch_177 (by omega) (by omega) (fun M132 hI sf131 f131 => ?_)
                have tM132_131_7 : M132 131 7 = M128 131 7 := f131 131 7 (fun q => absurd q.1 (by decide))
                have tM132_131_8 : M132 131 8 = M128 131 8 := f131 131 8 (fun q => absurd q.1 (by decide))
                have tM132_131_9 : M132 131 9 = M128 131 9 := f131 131 9 (fun q => absurd q.1 (by decide))
                have tM132_131_10 : M132 131 10 = M128 131 10 := f131 131 10 (fun q => absurd q.1 (by decide))
                have tM132_131_12 : M132 131 12 = M128 131 12 := f131 131 12 (fun q => absurd q.1 (by decide))
                have tM132_131_16 : M132 131 16 = M128 131 16 := f131 131 16 (fun q => absurd q.1 (by decide))
                have tM132_133_6 : M132 133 6 = M128 133 6 := f131 133 6 (fun q => absurd q.2 (by decide))
                have tM132_133_1 : M132 133 1 = M128 133 1 := f131 133 1 (fun q => absurd q.2 (by decide))
                have tM132_133_2 : M132 133 2 = M128 133 2 := f131 133 2 (fun q => absurd q.2 (by decide))
                have tM132_133_4 : M132 133 4 = M128 133 4 := f131 133 4 (fun q => absurd q.2 (by decide))
                have hq9 := wl_wr f131 (by omega)
                have hL := hq9.2 hL
                have cM132 := hq9.1
                clear hq9
                have hF := hF.wr f131 (by decide) (by decide)
                have hW : WFk M132 := hW.site f131 (by decide)
                have sf131 : M132 133 3 = v130 := sf131
                exact hret _ 178 _ ⟨hI, hW⟩ ⟨hF, ⟨hL, by omega⟩⟩ dX12_readTouch_178
              · exact hret _ 135 _ ⟨hI, hW⟩ ⟨hF, ⟨hL, by omega⟩⟩ dX12_readTouch_135
            · refine z_iconst F dX12_readTouch_121 ?_
              refine z_goto (tgt := 126) F dX12_readTouch_122 (by decide +kernel) ?_
              refine z_istore F dX12_readTouch_126 (by decide) (ls' := [(4, ii 2), (3, ii v116), (2, ii 0), (1, ii v6), (0, .ref (ad 131))]) rfl ?_
              refine z_aload_n F dX12_readTouch_128 rfl (q := 4) rfl ?_
              refine gf_X12_108 F hI gs_131 rfl bd_131_12 dX12_readTouch_129 (fun v133 ev133 av133 bv133 => ?_)
              refine z_if_eq (tgt := 136) F dX12_readTouch_132 (by decide +kernel) (by omega) (fun c134 => ?_) (fun c134 => ?_)
              · refine z_aload_n F dX12_readTouch_136 rfl (q := 4) rfl ?_
                refine rf_X12_13 F gs_131 rfl dX12_readTouch_137 ?_
                refine z_bipush F dX12_readTouch_140 (by decide +kernel) ?_
                refine z_bipush F dX12_readTouch_142 (by decide +kernel) ?_
                refine z_iload_n F dX12_readTouch_144 rfl (q := 3) rfl ?_
                refine z_imul F dX12_readTouch_145 ?_
                refine z_iadd F dX12_readTouch_146 ?_
                refine z_iload_n F dX12_readTouch_147 rfl (q := 1) rfl ?_
                refine z_iadd F dX12_readTouch_148 ?_
                refine z_iload F dX12_readTouch_149 (q := 0) rfl ?_
                refine z_iast F hI gs_133 (by omega) (by omega) (by decide) (bd_133.trans (kn_touch (by omega) (by omega))) dX12_readTouch_151 (by omega) (by omega) (fun M136 hI sf135 f135 => ?_)
                have tM136_131_7 : M136 131 7 = M120 131 7 := f135 131 7 (fun q => absurd q.1 (by decide))
                have tM136_131_8 : M136 131 8 = M120 131 8 := f135 131 8 (fun q => absurd q.1 (by decide))
                have tM136_131_9 : M136 131 9 = M120 131 9 := f135 131 9 (fun q => absurd q.1 (by decide))
                have tM136_131_10 : M136 131 10 = M120 131 10 := f135 131 10 (fun q => absurd q.1 (by decide))
                have tM136_131_12 : M136 131 12 = M120 131 12 := f135 131 12 (fun q => absurd q.1 (by decide))
                have tM136_131_16 : M136 131 16 = M120 131 16 := f135 131 16 (fun q => absurd q.1 (by decide))
                have tM136_133_6 : M136 133 6 = M120 133 6 := f135 133 6 (fun q => by have := q.2; omega)
                have tM136_133_1 : M136 133 1 = M120 133 1 := f135 133 1 (fun q => by have := q.2; omega)
                have tM136_133_2 : M136 133 2 = M120 133 2 := f135 133 2 (fun q => by have := q.2; omega)
                have tM136_133_4 : M136 133 4 = M120 133 4 := f135 133 4 (fun q => by have := q.2; omega)
                have hq9 := wl_wr f135 (by omega)
                have hL := hq9.2 hL
                have cM136 := hq9.1
                clear hq9
                have hF := hF.wr f135 (by decide) (by decide)
                have hW : WFk M136 := hW.site f135 (by decide)
                refine z_aload_n F dX12_readTouch_152 rfl (q := 4) rfl ?_
                refine rf_X12_13 F gs_131 rfl dX12_readTouch_153 ?_
                refine z_bipush F dX12_readTouch_156 (by decide +kernel) ?_
                refine z_bipush F dX12_readTouch_158 (by decide +kernel) ?_
                refine z_iload_n F dX12_readTouch_160 rfl (q := 1) rfl ?_
                refine z_imul F dX12_readTouch_161 ?_
                refine z_iadd F dX12_readTouch_162 ?_
                refine z_iload_n F dX12_readTouch_163 rfl (q := 3) rfl ?_
                refine z_iadd F dX12_readTouch_164 ?_
                refine z_iload F dX12_readTouch_165 (q := 0) rfl ?_
                refine z_iast F hI gs_133 (by omega) (by omega) (by decide) (bd_133.trans (kn_touch (by omega) (by omega))) dX12_readTouch_167 (by omega) (by omega) (fun M138 hI sf137 f137 => ?_)
                have tM138_131_7 : M138 131 7 = M136 131 7 := f137 131 7 (fun q => absurd q.1 (by decide))
                have tM138_131_8 : M138 131 8 = M136 131 8 := f137 131 8 (fun q => absurd q.1 (by decide))
                have tM138_131_9 : M138 131 9 = M136 131 9 := f137 131 9 (fun q => absurd q.1 (by decide))
                have tM138_131_10 : M138 131 10 = M136 131 10 := f137 131 10 (fun q => absurd q.1 (by decide))
                have tM138_131_12 : M138 131 12 = M136 131 12 := f137 131 12 (fun q => absurd q.1 (by decide))
                have tM138_131_16 : M138 131 16 = M136 131 16 := f137 131 16 (fun q => absurd q.1 (by decide))
                have tM138_133_6 : M138 133 6 = M136 133 6 := f137 133 6 (fun q => by have := q.2; omega)
                have tM138_133_1 : M138 133 1 = M136 133 1 := f137 133 1 (fun q => by have := q.2; omega)
                have tM138_133_2 : M138 133 2 = M136 133 2 := f137 133 2 (fun q => by have := q.2; omega)
                have tM138_133_4 : M138 133 4 = M136 133 4 := f137 133 4 (fun q => by have := q.2; omega)
                have hq9 := wl_wr f137 (by omega)
                have hL := hq9.2 hL
                have cM138 := hq9.1
                clear hq9
                have hF := hF.wr f137 (by decide) (by decide)
                have hW : WFk M138 := hW.site f137 (by decide)
                refine z_aload_n F dX12_readTouch_168 rfl (q := 4) rfl ?_
                refine rf_X12_13 F gs_131 rfl dX12_readTouch_169 ?_
                refine z_iconst F dX12_readTouch_172 ?_
                refine z_dup2 F dX12_readTouch_173 rfl rfl ?_
                refine z_iald F hI gs_133 (by omega) (by omega) (by decide) (show Bd 133 3 = (-2147483648, 2147483647) from rfl) dX12_readTouch_174 (fun v139 (ev139 : v139 = M138 133 3) av139 bv139 => ?_)
                refine z_iconst F dX12_readTouch_175 ?_
                refine z_iadd F dX12_readTouch_176 ?_
                refine z_wrap (fun v140 rv140 wv140 => ?_)
                refine z_iast F hI gs_133 (by omega) (by omega) (by decide) (show Bd 133 3 = (-2147483648, 2147483647) from rfl) dX12_readTouch_177 (by omega) (by omega) (fun M142 hI sf141 f141 => ?_)
                have tM142_131_7 : M142 131 7 = M138 131 7 := f141 131 7 (fun q => absurd q.1 (by decide))
                have tM142_131_8 : M142 131 8 = M138 131 8 := f141 131 8 (fun q => absurd q.1 (by decide))
                have tM142_131_9 : M142 131 9 = M138 131 9 := f141 131 9 (fun q => absurd q.1 (by decide))
                have tM142_131_10 : M142 131 10 = M138 131 10 := f141 131 10 (fun q => absurd q.1 (by decide))
                have tM142_131_12 : M142 131 12 = M138 131 12 := f141 131 12 (fun q => absurd q.1 (by decide))
                have tM142_131_16 : M142 131 16 = M138 131 16 := f141 131 16 (fun q => absurd q.1 (by decide))
                have tM142_133_6 : M142 133 6 = M138 133 6 := f141 133 6 (fun q => absurd q.2 (by decide))
                have tM142_133_1 : M142 133 1 = M138 133 1 := f141 133 1 (fun q => absurd q.2 (by decide))
                have tM142_133_2 : M142 133 2 = M138 133 2 := f141 133 2 (fun q => absurd q.2 (by decide))
                have tM142_133_4 : M142 133 4 = M138 133 4 := f141 133 4 (fun q => absurd q.2 (by decide))
                have hq9 := wl_wr f141 (by omega)
                have hL := hq9.2 hL
                have cM142 := hq9.1
                clear hq9
                have hF := hF.wr f141 (by decide) (by decide)
                have hW : WFk M142 := hW.site f141 (by decide)
                have sf141 : M142 133 3 = v140 := sf141
                exact hret _ 178 _ ⟨hI, hW⟩ ⟨hF, ⟨hL, by omega⟩⟩ dX12_readTouch_178
              · exact hret _ 135 _ ⟨hI, hW⟩ ⟨hF, ⟨hL, by omega⟩⟩ dX12_readTouch_135
          · refine z_aload_n F dX12_readTouch_63 rfl (q := 1) rfl ?_
            refine rf_X12_13 F gs_131 rfl dX12_readTouch_64 ?_
            refine z_bipush F dX12_readTouch_67 (by decide +kernel) ?_
            refine z_bipush F dX12_readTouch_69 (by decide +kernel) ?_
            refine z_iload_n F dX12_readTouch_71 rfl (q := 0) rfl ?_
            refine z_imul F dX12_readTouch_72 ?_
            refine z_iadd F dX12_readTouch_73 ?_
            refine z_aload_n F dX12_readTouch_74 rfl (q := 1) rfl ?_
            refine gf_X12_102 F hI gs_131 rfl bd_131_11 dX12_readTouch_75 (fun v143 ev143 av143 bv143 => ?_)
            have zv143 : v73 = v143 := ev73.trans ev143.symm
            subst zv143
            refine z_iadd F dX12_readTouch_78 ?_
            refine z_iald F hI gs_133 (by omega) (by omega) (by decide) (bd_133.trans (kn_touch (by omega) (by omega))) dX12_readTouch_79 (fun v144 (ev144 : v144 = M7 133 _) av144 bv144 => ?_)
            refine z_if_eq (tgt := 87) F dX12_readTouch_80 (by decide +kernel) (by omega) (fun c145 => ?_) (fun c145 => ?_)
            · refine z_iconst F dX12_readTouch_87 ?_
              refine z_istore_n F dX12_readTouch_88 rfl (by decide) (ls' := [(2, ii 0), (1, ii v6), (0, .ref (ad 131))]) rfl ?_
              refine z_iload_n F dX12_readTouch_89 rfl (q := 0) rfl ?_
              refine z_if_eq (tgt := 98) F dX12_readTouch_90 (by decide +kernel) (by omega) (fun c146 => ?_) (fun c146 => by exfalso; omega)
              refine z_aload_n F dX12_readTouch_98 rfl (q := 2) rfl ?_
              refine z_iconst F dX12_readTouch_99 ?_
              refine z_aload_n F dX12_readTouch_100 rfl (q := 2) rfl ?_
              refine rf_X12_13 F gs_131 rfl dX12_readTouch_101 ?_
              refine z_iconst F dX12_readTouch_104 ?_
              refine z_iald F hI gs_133 (by omega) (by omega) (by decide) (show Bd 133 1 = (0, 10) from rfl) dX12_readTouch_105 (fun v147 (ev147 : v147 = M7 133 1) av147 bv147 => ?_)
              have q148 : v5 = M7 133 1 := ev5.trans ((fp8.at (by decide)) : M7 133 1 = _).symm
              have zv147 : v5 = v147 := q148.trans ev147.symm
              subst zv147
              refine z_iconst F dX12_readTouch_106 ?_
              refine z_isub F dX12_readTouch_107 ?_
              refine zv_i (rest := []) F (kp_X12_number l M7 ⟨hI, hW⟩ 0 (by omega) (by omega) (v5 - 1) (by omega) (by omega) (by omega)) cs_X12_199 (T := TX12) (N := 44) (ci := 12) rfl gs_131 (by decide) (by decide) rfl rfl rfl (Nat.le_of_ble_eq_true rfl) dX12_readTouch_108 (fun v149 M150 rv149 hI p151 => ?_)
              obtain ⟨hI, hW⟩ := hI
              obtain ⟨⟨av149, bv149⟩, fp151, xp151⟩ := p151
              have hF := hF.call fp151 (by decide)
              have tM150_133_6 : M150 133 6 = M7 133 6 := fp151.at (by decide)
              have tM150_133_1 : M150 133 1 = M7 133 1 := fp151.at (by decide)
              have tM150_133_2 : M150 133 2 = M7 133 2 := fp151.at (by decide)
              have tM150_133_4 : M150 133 4 = M7 133 4 := fp151.at (by decide)
              have hq9 := wl_fr fp151 (by decide)
              have hL := hq9.2 hL
              have cM150 := hq9.1
              clear hq9
              have hkv149 : 0 ≤ v149 ∧ v149 ≤ 9 := by omega
              refine z_istore_n F dX12_readTouch_111 rfl (by decide) (ls' := [(3, ii v149), (2, ii 0), (1, ii v6), (0, .ref (ad 131))]) rfl ?_
              refine z_aload_n F dX12_readTouch_112 rfl (q := 3) rfl ?_
              refine z_ldcS (j := 59) F dX12_readTouch_113 rfl rfl rfl ?_
              refine z_eq (st' := [.ref (ad 1059), .ref (ad 131)]) rfl rfl rfl ?_
              refine zv_i (rest := []) F (kp_X12_took_131_1059 l M150 ⟨hI, hW⟩ (by omega)) cs_X12_130 (T := TX12) (N := 44) (ci := 12) rfl gs_131 (by decide) (by decide) rfl rfl rfl (Nat.le_of_ble_eq_true rfl) dX12_readTouch_115 (fun v152 M153 rv152 hI p154 => ?_)
              obtain ⟨hI, hW⟩ := hI
              obtain ⟨⟨av152, bv152⟩, fp154, xp154⟩ := p154
              have hF := hF.call fp154 (by decide)
              have tM153_133_6 : M153 133 6 = M150 133 6 := fp154.at (by decide)
              have tM153_133_1 : M153 133 1 = M150 133 1 := fp154.at (by decide)
              have tM153_133_2 : M153 133 2 = M150 133 2 := fp154.at (by decide)
              have tM153_133_4 : M153 133 4 = M150 133 4 := fp154.at (by decide)
              have hq9 := wl_fr fp154 (by decide)
              have hL := hq9.2 hL
              have cM153 := hq9.1
              clear hq9
              refine z_if_eq (tgt := 125) F dX12_readTouch_118 (by decide +kernel) (by omega) (fun c155 => ?_) (fun c155 => ?_)
              · refine z_iconst F dX12_readTouch_125 ?_
                refine z_istore F dX12_readTouch_126 (by decide) (ls' := [(4, ii 1), (3, ii v149), (2, ii 0), (1, ii v6), (0, .ref (ad 131))]) rfl ?_
                refine z_aload_n F dX12_readTouch_128 rfl (q := 4) rfl ?_
                refine gf_X12_108 F hI gs_131 rfl bd_131_12 dX12_readTouch_129 (fun v156 ev156 av156 bv156 => ?_)
                refine z_if_eq (tgt := 136) F dX12_readTouch_132 (by decide +kernel) (by omega) (fun c157 => ?_) (fun c157 => ?_)
                · refine z_aload_n F dX12_readTouch_136 rfl (q := 4) rfl ?_
                  refine rf_X12_13 F gs_131 rfl dX12_readTouch_137 ?_
                  refine z_bipush F dX12_readTouch_140 (by decide +kernel) ?_
                  refine z_bipush F dX12_readTouch_142 (by decide +kernel) ?_
                  refine z_iload_n F dX12_readTouch_144 rfl (q := 3) rfl ?_
                  refine z_imul F dX12_readTouch_145 ?_
                  refine z_iadd F dX12_readTouch_146 ?_
                  refine z_iload_n F dX12_readTouch_147 rfl (q := 1) rfl ?_
                  refine z_iadd F dX12_readTouch_148 ?_
                  refine z_iload F dX12_readTouch_149 (q := 0) rfl ?_
                  refine z_iast F hI gs_133 (by omega) (by omega) (by decide) (bd_133.trans (kn_touch (by omega) (by omega))) dX12_readTouch_151 (by omega) (by omega) (fun M159 hI sf158 f158 => ?_)
                  have tM159_131_7 : M159 131 7 = M153 131 7 := f158 131 7 (fun q => absurd q.1 (by decide))
                  have tM159_131_8 : M159 131 8 = M153 131 8 := f158 131 8 (fun q => absurd q.1 (by decide))
                  have tM159_131_9 : M159 131 9 = M153 131 9 := f158 131 9 (fun q => absurd q.1 (by decide))
                  have tM159_131_10 : M159 131 10 = M153 131 10 := f158 131 10 (fun q => absurd q.1 (by decide))
                  have tM159_131_12 : M159 131 12 = M153 131 12 := f158 131 12 (fun q => absurd q.1 (by decide))
                  have tM159_131_16 : M159 131 16 = M153 131 16 := f158 131 16 (fun q => absurd q.1 (by decide))
                  have tM159_133_6 : M159 133 6 = M153 133 6 := f158 133 6 (fun q => by have := q.2; omega)
                  have tM159_133_1 : M159 133 1 = M153 133 1 := f158 133 1 (fun q => by have := q.2; omega)
                  have tM159_133_2 : M159 133 2 = M153 133 2 := f158 133 2 (fun q => by have := q.2; omega)
                  have tM159_133_4 : M159 133 4 = M153 133 4 := f158 133 4 (fun q => by have := q.2; omega)
                  have hq9 := wl_wr f158 (by omega)
                  have hL := hq9.2 hL
                  have cM159 := hq9.1
                  clear hq9
                  have hF := hF.wr f158 (by decide) (by decide)
                  have hW : WFk M159 := hW.site f158 (by decide)
                  refine z_aload_n F dX12_readTouch_152 rfl (q := 4) rfl ?_
                  refine rf_X12_13 F gs_131 rfl dX12_readTouch_153 ?_
                  refine z_bipush F dX12_readTouch_156 (by decide +kernel) ?_
                  refine z_bipush F dX12_readTouch_158 (by decide +kernel) ?_
                  refine z_iload_n F dX12_readTouch_160 rfl (q := 1) rfl ?_
                  refine z_imul F dX12_readTouch_161 ?_
                  refine z_iadd F dX12_readTouch_162 ?_
                  refine z_iload_n F dX12_readTouch_163 rfl (q := 3) rfl ?_
                  refine z_iadd F dX12_readTouch_164 ?_
                  refine z_iload F dX12_readTouch_165 (q := 0) rfl ?_
                  refine z_iast F hI gs_133 (by omega) (by omega) (by decide) (bd_133.trans (kn_touch (by omega) (by omega))) dX12_readTouch_167 (by omega) (by omega) (fun M161 hI sf160 f160 => ?_)
                  have tM161_131_7 : M161 131 7 = M159 131 7 := f160 131 7 (fun q => absurd q.1 (by decide))
                  have tM161_131_8 : M161 131 8 = M159 131 8 := f160 131 8 (fun q => absurd q.1 (by decide))
                  have tM161_131_9 : M161 131 9 = M159 131 9 := f160 131 9 (fun q => absurd q.1 (by decide))
                  have tM161_131_10 : M161 131 10 = M159 131 10 := f160 131 10 (fun q => absurd q.1 (by decide))
                  have tM161_131_12 : M161 131 12 = M159 131 12 := f160 131 12 (fun q => absurd q.1 (by decide))
                  have tM161_131_16 : M161 131 16 = M159 131 16 := f160 131 16 (fun q => absurd q.1 (by decide))
                  have tM161_133_6 : M161 133 6 = M159 133 6 := f160 133 6 (fun q => by have := q.2; omega)
                  have tM161_133_1 : M161 133 1 = M159 133 1 := f160 133 1 (fun q => by have := q.2; omega)
                  have tM161_133_2 : M161 133 2 = M159 133 2 := f160 133 2 (fun q => by have := q.2; omega)
                  have tM161_133_4 : M161 133 4 = M159 133 4 := f160 133 4 (fun q => by have := q.2; omega)
                  have hq9 := wl_wr f160 (by omega)
                  have hL := hq9.2 hL
                  have cM161 := hq9.1
                  clear hq9
                  have hF := hF.wr f160 (by decide) (by decide)
                  have hW : WFk M161 := hW.site f160 (by decide)
                  refine z_aload_n F dX12_readTouch_168 rfl (q := 4) rfl ?_
                  refine rf_X12_13 F gs_131 rfl dX12_readTouch_169 ?_
                  refine z_iconst F dX12_readTouch_172 ?_
                  refine z_dup2 F dX12_readTouch_173 rfl rfl ?_
                  refine z_iald F hI gs_133 (by omega) (by omega) (by decide) (show Bd 133 3 = (-2147483648, 2147483647) from rfl) dX12_readTouch_174 (fun v162 (ev162 : v162 = M161 133 3) av162 bv162 => ?_)
                  refine z_iconst F dX12_readTouch_175 ?_
                  refine z_iadd F dX12_readTouch_176 ?_
                  refine z_wrap (fun v163 rv163 wv163 => ?_)
                  refine z_iast F hI gs_133 (by omega) (by omega) (by decide) (show Bd 133 3 = (-2147483648, 2147483647) from rfl) dX12_readTouch_177 (by omega) (by omega) (fun M165 hI sf164 f164 => ?_)
                  have tM165_131_7 : M165 131 7 = M161 131 7 := f164 131 7 (fun q => absurd q.1 (by decide))
                  have tM165_131_8 : M165 131 8 = M161 131 8 := f164 131 8 (fun q => absurd q.1 (by decide))
                  have tM165_131_9 : M165 131 9 = M161 131 9 := f164 131 9 (fun q => absurd q.1 (by decide))
                  have tM165_131_10 : M165 131 10 = M161 131 10 := f164 131 10 (fun q => absurd q.1 (by decide))
                  have tM165_131_12 : M165 131 12 = M161 131 12 := f164 131 12 (fun q => absurd q.1 (by decide))
                  have tM165_131_16 : M165 131 16 = M161 131 16 := f164 131 16 (fun q => absurd q.1 (by decide))
                  have tM165_133_6 : M165 133 6 = M161 133 6 := f164 133 6 (fun q => absurd q.2 (by decide))
                  have tM165_133_1 : M165 133 1 = M161 133 1 := f164 133 1 (fun q => absurd q.2 (by decide))
                  have tM165_133_2 : M165 133 2 = M161 133 2 := f164 133 2 (fun q => absurd q.2 (by decide))
                  have tM165_133_4 : M165 133 4 = M161 133 4 := f164 133 4 (fun q => absurd q.2 (by decide))
                  have hq9 := wl_wr f164 (by omega)
                  have hL := hq9.2 hL
                  have cM165 := hq9.1
                  clear hq9
                  have hF := hF.wr f164 (by decide) (by decide)
                  have hW : WFk M165 := hW.site f164 (by decide)
                  have sf164 : M165 133 3 = v163 := sf164
                  exact hret _ 178 _ ⟨hI, hW⟩ ⟨hF, ⟨hL, by omega⟩⟩ dX12_readTouch_178
                · exact hret _ 135 _ ⟨hI, hW⟩ ⟨hF, ⟨hL, by omega⟩⟩ dX12_readTouch_135
              · refine z_iconst F dX12_readTouch_121 ?_
                refine z_goto (tgt := 126) F dX12_readTouch_122 (by decide +kernel) ?_
                refine z_istore F dX12_readTouch_126 (by decide) (ls' := [(4, ii 2), (3, ii v149), (2, ii 0), (1, ii v6), (0, .ref (ad 131))]) rfl ?_
                refine z_aload_n F dX12_readTouch_128 rfl (q := 4) rfl ?_
                refine gf_X12_108 F hI gs_131 rfl bd_131_12 dX12_readTouch_129 (fun v166 ev166 av166 bv166 => ?_)
                refine z_if_eq (tgt := 136) F dX12_readTouch_132 (by decide +kernel) (by omega) (fun c167 => ?_) (fun c167 => ?_)
                · refine z_aload_n F dX12_readTouch_136 rfl (q := 4) rfl ?_
                  refine rf_X12_13 F gs_131 rfl dX12_readTouch_137 ?_
                  refine z_bipush F dX12_readTouch_140 (by decide +kernel) ?_
                  refine z_bipush F dX12_readTouch_142 (by decide +kernel) ?_
                  refine z_iload_n F dX12_readTouch_144 rfl (q := 3) rfl ?_
                  refine z_imul F dX12_readTouch_145 ?_
                  refine z_iadd F dX12_readTouch_146 ?_
                  refine z_iload_n F dX12_readTouch_147 rfl (q := 1) rfl ?_
                  refine z_iadd F dX12_readTouch_148 ?_
                  refine z_iload F dX12_readTouch_149 (q := 0) rfl ?_
                  refine z_iast F hI gs_133 (by omega) (by omega) (by decide) (bd_133.trans (kn_touch (by omega) (by omega))) dX12_readTouch_151 (by omega) (by omega) (fun M169 hI sf168 f168 => ?_)
                  have tM169_131_7 : M169 131 7 = M153 131 7 := f168 131 7 (fun q => absurd q.1 (by decide))
                  have tM169_131_8 : M169 131 8 = M153 131 8 := f168 131 8 (fun q => absurd q.1 (by decide))
                  have tM169_131_9 : M169 131 9 = M153 131 9 := f168 131 9 (fun q => absurd q.1 (by decide))
                  have tM169_131_10 : M169 131 10 = M153 131 10 := f168 131 10 (fun q => absurd q.1 (by decide))
                  have tM169_131_12 : M169 131 12 = M153 131 12 := f168 131 12 (fun q => absurd q.1 (by decide))
                  have tM169_131_16 : M169 131 16 = M153 131 16 := f168 131 16 (fun q => absurd q.1 (by decide))
                  have tM169_133_6 : M169 133 6 = M153 133 6 := f168 133 6 (fun q => by have := q.2; omega)
                  have tM169_133_1 : M169 133 1 = M153 133 1 := f168 133 1 (fun q => by have := q.2; omega)
                  have tM169_133_2 : M169 133 2 = M153 133 2 := f168 133 2 (fun q => by have := q.2; omega)
                  have tM169_133_4 : M169 133 4 = M153 133 4 := f168 133 4 (fun q => by have := q.2; omega)
                  have hq9 := wl_wr f168 (by omega)
                  have hL := hq9.2 hL
                  have cM169 := hq9.1
                  clear hq9
                  have hF := hF.wr f168 (by decide) (by decide)
                  have hW : WFk M169 := hW.site f168 (by decide)
                  refine z_aload_n F dX12_readTouch_152 rfl (q := 4) rfl ?_
                  refine rf_X12_13 F gs_131 rfl dX12_readTouch_153 ?_
                  refine z_bipush F dX12_readTouch_156 (by decide +kernel) ?_
                  refine z_bipush F dX12_readTouch_158 (by decide +kernel) ?_
                  refine z_iload_n F dX12_readTouch_160 rfl (q := 1) rfl ?_
                  refine z_imul F dX12_readTouch_161 ?_
                  refine z_iadd F dX12_readTouch_162 ?_
                  refine z_iload_n F dX12_readTouch_163 rfl (q := 3) rfl ?_
                  refine z_iadd F dX12_readTouch_164 ?_
                  refine z_iload F dX12_readTouch_165 (q := 0) rfl ?_
                  refine z_iast F hI gs_133 (by omega) (by omega) (by decide) (bd_133.trans (kn_touch (by omega) (by omega))) dX12_readTouch_167 (by omega) (by omega) (fun M171 hI sf170 f170 => ?_)
                  have tM171_131_7 : M171 131 7 = M169 131 7 := f170 131 7 (fun q => absurd q.1 (by decide))
                  have tM171_131_8 : M171 131 8 = M169 131 8 := f170 131 8 (fun q => absurd q.1 (by decide))
                  have tM171_131_9 : M171 131 9 = M169 131 9 := f170 131 9 (fun q => absurd q.1 (by decide))
                  have tM171_131_10 : M171 131 10 = M169 131 10 := f170 131 10 (fun q => absurd q.1 (by decide))
                  have tM171_131_12 : M171 131 12 = M169 131 12 := f170 131 12 (fun q => absurd q.1 (by decide))
                  have tM171_131_16 : M171 131 16 = M169 131 16 := f170 131 16 (fun q => absurd q.1 (by decide))
                  have tM171_133_6 : M171 133 6 = M169 133 6 := f170 133 6 (fun q => by have := q.2; omega)
                  have tM171_133_1 : M171 133 1 = M169 133 1 := f170 133 1 (fun q => by have := q.2; omega)
                  have tM171_133_2 : M171 133 2 = M169 133 2 := f170 133 2 (fun q => by have := q.2; omega)
                  have tM171_133_4 : M171 133 4 = M169 133 4 := f170 133 4 (fun q => by have := q.2; omega)
                  have hq9 := wl_wr f170 (by omega)
                  have hL := hq9.2 hL
                  have cM171 := hq9.1
                  clear hq9
                  have hF := hF.wr f170 (by decide) (by decide)
                  have hW : WFk M171 := hW.site f170 (by decide)
                  refine z_aload_n F dX12_readTouch_168 rfl (q := 4) rfl ?_
                  refine rf_X12_13 F gs_131 rfl dX12_readTouch_169 ?_
                  refine z_iconst F dX12_readTouch_172 ?_
                  refine z_dup2 F dX12_readTouch_173 rfl rfl ?_
                  refine z_iald F hI gs_133 (by omega) (by omega) (by decide) (show Bd 133 3 = (-2147483648, 2147483647) from rfl) dX12_readTouch_174 (fun v172 (ev172 : v172 = M171 133 3) av172 bv172 => ?_)
                  refine z_iconst F dX12_readTouch_175 ?_
                  refine z_iadd F dX12_readTouch_176 ?_
                  refine z_wrap (fun v173 rv173 wv173 => ?_)
                  refine z_iast F hI gs_133 (by omega) (by omega) (by decide) (show Bd 133 3 = (-2147483648, 2147483647) from rfl) dX12_readTouch_177 (by omega) (by omega) (fun M175 hI sf174 f174 => ?_)
                  have tM175_131_7 : M175 131 7 = M171 131 7 := f174 131 7 (fun q => absurd q.1 (by decide))
                  have tM175_131_8 : M175 131 8 = M171 131 8 := f174 131 8 (fun q => absurd q.1 (by decide))
                  have tM175_131_9 : M175 131 9 = M171 131 9 := f174 131 9 (fun q => absurd q.1 (by decide))
                  have tM175_131_10 : M175 131 10 = M171 131 10 := f174 131 10 (fun q => absurd q.1 (by decide))
                  have tM175_131_12 : M175 131 12 = M171 131 12 := f174 131 12 (fun q => absurd q.1 (by decide))
                  have tM175_131_16 : M175 131 16 = M171 131 16 := f174 131 16 (fun q => absurd q.1 (by decide))
                  have tM175_133_6 : M175 133 6 = M171 133 6 := f174 133 6 (fun q => absurd q.2 (by decide))
                  have tM175_133_1 : M175 133 1 = M171 133 1 := f174 133 1 (fun q => absurd q.2 (by decide))
                  have tM175_133_2 : M175 133 2 = M171 133 2 := f174 133 2 (fun q => absurd q.2 (by decide))
                  have tM175_133_4 : M175 133 4 = M171 133 4 := f174 133 4 (fun q => absurd q.2 (by decide))
                  have hq9 := wl_wr f174 (by omega)
                  have hL := hq9.2 hL
                  have cM175 := hq9.1
                  clear hq9
                  have hF := hF.wr f174 (by decide) (by decide)
                  have hW : WFk M175 := hW.site f174 (by decide)
                  have sf174 : M175 133 3 = v173 := sf174
                  exact hret _ 178 _ ⟨hI, hW⟩ ⟨hF, ⟨hL, by omega⟩⟩ dX12_readTouch_178
                · exact hret _ 135 _ ⟨hI, hW⟩ ⟨hF, ⟨hL, by omega⟩⟩ dX12_readTouch_135
            · refine z_iconst F dX12_readTouch_83 ?_
              refine z_goto (tgt := 88) F dX12_readTouch_84 (by decide +kernel) ?_
              refine z_istore_n F dX12_readTouch_88 rfl (by decide) (ls' := [(2, ii 1), (1, ii v6), (0, .ref (ad 131))]) rfl ?_
              refine z_iload_n F dX12_readTouch_89 rfl (q := 0) rfl ?_
              refine z_if_eq (tgt := 98) F dX12_readTouch_90 (by decide +kernel) (by omega) (fun c176 => by exfalso; omega) (fun c176 => ?_)
              refine z_aload_n F dX12_readTouch_93 rfl (q := 2) rfl ?_
              refine z_iconst F dX12_readTouch_94 ?_
              refine zv_v (rest := []) F (kp_X12_blames l M7 ⟨hI, hW⟩ 3 (by omega) (by omega)) cs_X12_133 (T := TX12) (N := 44) (ci := 12) rfl gs_131 (by decide) (by decide) rfl rfl rfl (Nat.le_of_ble_eq_true rfl) dX12_readTouch_95 (fun M177 hI p178 => ?_)
              obtain ⟨hI, hW⟩ := hI
              obtain ⟨fp178, xp178⟩ := p178
              have hF := hF.call fp178 (by decide)
              have tM177_133_6 : M177 133 6 = M7 133 6 := fp178.at (by decide)
              have tM177_133_1 : M177 133 1 = M7 133 1 := fp178.at (by decide)
              have tM177_133_2 : M177 133 2 = M7 133 2 := fp178.at (by decide)
              have tM177_133_4 : M177 133 4 = M7 133 4 := fp178.at (by decide)
              have hq9 := wl_fr fp178 (by decide)
              have hL := hq9.2 hL
              have cM177 := hq9.1
              clear hq9
              refine z_aload_n F dX12_readTouch_98 rfl (q := 2) rfl ?_
              refine z_iconst F dX12_readTouch_99 ?_
              refine z_aload_n F dX12_readTouch_100 rfl (q := 2) rfl ?_
              refine rf_X12_13 F gs_131 rfl dX12_readTouch_101 ?_
              refine z_iconst F dX12_readTouch_104 ?_
              refine z_iald F hI gs_133 (by omega) (by omega) (by decide) (show Bd 133 1 = (0, 10) from rfl) dX12_readTouch_105 (fun v179 (ev179 : v179 = M177 133 1) av179 bv179 => ?_)
              have q180 : v5 = M7 133 1 := ev5.trans ((fp8.at (by decide)) : M7 133 1 = _).symm
              have q181 : v5 = M177 133 1 := q180.trans ((fp178.at (by decide)) : M177 133 1 = _).symm
              have zv179 : v5 = v179 := q181.trans ev179.symm
              subst zv179
              refine z_iconst F dX12_readTouch_106 ?_
              refine z_isub F dX12_readTouch_107 ?_
              refine zv_i (rest := []) F (kp_X12_number l M177 ⟨hI, hW⟩ 0 (by omega) (by omega) (v5 - 1) (by omega) (by omega) (by omega)) cs_X12_199 (T := TX12) (N := 44) (ci := 12) rfl gs_131 (by decide) (by decide) rfl rfl rfl (Nat.le_of_ble_eq_true rfl) dX12_readTouch_108 (fun v182 M183 rv182 hI p184 => ?_)
              obtain ⟨hI, hW⟩ := hI
              obtain ⟨⟨av182, bv182⟩, fp184, xp184⟩ := p184
              have hF := hF.call fp184 (by decide)
              have tM183_133_6 : M183 133 6 = M177 133 6 := fp184.at (by decide)
              have tM183_133_1 : M183 133 1 = M177 133 1 := fp184.at (by decide)
              have tM183_133_2 : M183 133 2 = M177 133 2 := fp184.at (by decide)
              have tM183_133_4 : M183 133 4 = M177 133 4 := fp184.at (by decide)
              have hq9 := wl_fr fp184 (by decide)
              have hL := hq9.2 hL
              have cM183 := hq9.1
              clear hq9
              have hkv182 : 0 ≤ v182 ∧ v182 ≤ 9 := by omega
              refine z_istore_n F dX12_readTouch_111 rfl (by decide) (ls' := [(3, ii v182), (2, ii 1), (1, ii v6), (0, .ref (ad 131))]) rfl ?_
              refine z_aload_n F dX12_readTouch_112 rfl (q := 3) rfl ?_
              refine z_ldcS (j := 59) F dX12_readTouch_113 rfl rfl rfl ?_
              refine z_eq (st' := [.ref (ad 1059), .ref (ad 131)]) rfl rfl rfl ?_
              refine zv_i (rest := []) F (kp_X12_took_131_1059 l M183 ⟨hI, hW⟩ (by omega)) cs_X12_130 (T := TX12) (N := 44) (ci := 12) rfl gs_131 (by decide) (by decide) rfl rfl rfl (Nat.le_of_ble_eq_true rfl) dX12_readTouch_115 (fun v185 M186 rv185 hI p187 => ?_)
              obtain ⟨hI, hW⟩ := hI
              obtain ⟨⟨av185, bv185⟩, fp187, xp187⟩ := p187
              have hF := hF.call fp187 (by decide)
              have tM186_133_6 : M186 133 6 = M183 133 6 := fp187.at (by decide)
              have tM186_133_1 : M186 133 1 = M183 133 1 := fp187.at (by decide)
              have tM186_133_2 : M186 133 2 = M183 133 2 := fp187.at (by decide)
              have tM186_133_4 : M186 133 4 = M183 133 4 := fp187.at (by decide)
              have hq9 := wl_fr fp187 (by decide)
              have hL := hq9.2 hL
              have cM186 := hq9.1
              clear hq9
              refine z_if_eq (tgt := 125) F dX12_readTouch_118 (by decide +kernel) (by omega) (fun c188 => ?_) (fun c188 => ?_)
              · refine z_iconst F dX12_readTouch_125 ?_
                refine z_istore F dX12_readTouch_126 (by decide) (ls' := [(4, ii 1), (3, ii v182), (2, ii 1), (1, ii v6), (0, .ref (ad 131))]) rfl ?_
                refine z_aload_n F dX12_readTouch_128 rfl (q := 4) rfl ?_
                refine gf_X12_108 F hI gs_131 rfl bd_131_12 dX12_readTouch_129 (fun v189 ev189 av189 bv189 => ?_)
                refine z_if_eq (tgt := 136) F dX12_readTouch_132 (by decide +kernel) (by omega) (fun c190 => ?_) (fun c190 => ?_)
                · refine z_aload_n F dX12_readTouch_136 rfl (q := 4) rfl ?_
                  refine rf_X12_13 F gs_131 rfl dX12_readTouch_137 ?_
                  refine z_bipush F dX12_readTouch_140 (by decide +kernel) ?_
                  refine z_bipush F dX12_readTouch_142 (by decide +kernel) ?_
                  refine z_iload_n F dX12_readTouch_144 rfl (q := 3) rfl ?_
                  refine z_imul F dX12_readTouch_145 ?_
                  refine z_iadd F dX12_readTouch_146 ?_
                  refine z_iload_n F dX12_readTouch_147 rfl (q := 1) rfl ?_
                  refine z_iadd F dX12_readTouch_148 ?_
                  refine z_iload F dX12_readTouch_149 (q := 0) rfl ?_
                  refine z_iast F hI gs_133 (by omega) (by omega) (by decide) (bd_133.trans (kn_touch (by omega) (by omega))) dX12_readTouch_151 (by omega) (by omega) (fun M192 hI sf191 f191 => ?_)
                  have tM192_131_7 : M192 131 7 = M186 131 7 := f191 131 7 (fun q => absurd q.1 (by decide))
                  have tM192_131_8 : M192 131 8 = M186 131 8 := f191 131 8 (fun q => absurd q.1 (by decide))
                  have tM192_131_9 : M192 131 9 = M186 131 9 := f191 131 9 (fun q => absurd q.1 (by decide))
                  have tM192_131_10 : M192 131 10 = M186 131 10 := f191 131 10 (fun q => absurd q.1 (by decide))
                  have tM192_131_12 : M192 131 12 = M186 131 12 := f191 131 12 (fun q => absurd q.1 (by decide))
                  have tM192_131_16 : M192 131 16 = M186 131 16 := f191 131 16 (fun q => absurd q.1 (by decide))
                  have tM192_133_6 : M192 133 6 = M186 133 6 := f191 133 6 (fun q => by have := q.2; omega)
                  have tM192_133_1 : M192 133 1 = M186 133 1 := f191 133 1 (fun q => by have := q.2; omega)
                  have tM192_133_2 : M192 133 2 = M186 133 2 := f191 133 2 (fun q => by have := q.2; omega)
                  have tM192_133_4 : M192 133 4 = M186 133 4 := f191 133 4 (fun q => by have := q.2; omega)
                  have hq9 := wl_wr f191 (by omega)
                  have hL := hq9.2 hL
                  have cM192 := hq9.1
                  clear hq9
                  have hF := hF.wr f191 (by decide) (by decide)
                  have hW : WFk M192 := hW.site f191 (by decide)
                  refine z_aload_n F dX12_readTouch_152 rfl (q := 4) rfl ?_
                  refine rf_X12_13 F gs_131 rfl dX12_readTouch_153 ?_
                  refine z_bipush F dX12_readTouch_156 (by decide +kernel) ?_
                  refine z_bipush F dX12_readTouch_158 (by decide +kernel) ?_
                  refine z_iload_n F dX12_readTouch_160 rfl (q := 1) rfl ?_
                  refine z_imul F dX12_readTouch_161 ?_
                  refine z_iadd F dX12_readTouch_162 ?_
                  refine z_iload_n F dX12_readTouch_163 rfl (q := 3) rfl ?_
                  refine z_iadd F dX12_readTouch_164 ?_
                  refine z_iload F dX12_readTouch_165 (q := 0) rfl ?_
                  refine z_iast F hI gs_133 (by omega) (by omega) (by decide) (bd_133.trans (kn_touch (by omega) (by omega))) dX12_readTouch_167 (by omega) (by omega) (fun M194 hI sf193 f193 => ?_)
                  have tM194_131_7 : M194 131 7 = M192 131 7 := f193 131 7 (fun q => absurd q.1 (by decide))
                  have tM194_131_8 : M194 131 8 = M192 131 8 := f193 131 8 (fun q => absurd q.1 (by decide))
                  have tM194_131_9 : M194 131 9 = M192 131 9 := f193 131 9 (fun q => absurd q.1 (by decide))
                  have tM194_131_10 : M194 131 10 = M192 131 10 := f193 131 10 (fun q => absurd q.1 (by decide))
                  have tM194_131_12 : M194 131 12 = M192 131 12 := f193 131 12 (fun q => absurd q.1 (by decide))
                  have tM194_131_16 : M194 131 16 = M192 131 16 := f193 131 16 (fun q => absurd q.1 (by decide))
                  have tM194_133_6 : M194 133 6 = M192 133 6 := f193 133 6 (fun q => by have := q.2; omega)
                  have tM194_133_1 : M194 133 1 = M192 133 1 := f193 133 1 (fun q => by have := q.2; omega)
                  have tM194_133_2 : M194 133 2 = M192 133 2 := f193 133 2 (fun q => by have := q.2; omega)
                  have tM194_133_4 : M194 133 4 = M192 133 4 := f193 133 4 (fun q => by have := q.2; omega)
                  have hq9 := wl_wr f193 (by omega)
                  have hL := hq9.2 hL
                  have cM194 := hq9.1
                  clear hq9
                  have hF := hF.wr f193 (by decide) (by decide)
                  have hW : WFk M194 := hW.site f193 (by decide)
                  refine z_aload_n F dX12_readTouch_168 rfl (q := 4) rfl ?_
                  refine rf_X12_13 F gs_131 rfl dX12_readTouch_169 ?_
                  refine z_iconst F dX12_readTouch_172 ?_
                  refine z_dup2 F dX12_readTouch_173 rfl rfl ?_
                  refine z_iald F hI gs_133 (by omega) (by omega) (by decide) (show Bd 133 3 = (-2147483648, 2147483647) from rfl) dX12_readTouch_174 (fun v195 (ev195 : v195 = M194 133 3) av195 bv195 => ?_)
                  refine z_iconst F dX12_readTouch_175 ?_
                  refine z_iadd F dX12_readTouch_176 ?_
                  refine z_wrap (fun v196 rv196 wv196 => ?_)
                  refine z_iast F hI gs_133 (by omega) (by omega) (by decide) (show Bd 133 3 = (-2147483648, 2147483647) from rfl) dX12_readTouch_177 (by omega) (by omega) (fun M198 hI sf197 f197 => ?_)
                  have tM198_131_7 : M198 131 7 = M194 131 7 := f197 131 7 (fun q => absurd q.1 (by decide))
                  have tM198_131_8 : M198 131 8 = M194 131 8 := f197 131 8 (fun q => absurd q.1 (by decide))
                  have tM198_131_9 : M198 131 9 = M194 131 9 := f197 131 9 (fun q => absurd q.1 (by decide))
                  have tM198_131_10 : M198 131 10 = M194 131 10 := f197 131 10 (fun q => absurd q.1 (by decide))
                  have tM198_131_12 : M198 131 12 = M194 131 12 := f197 131 12 (fun q => absurd q.1 (by decide))
                  have tM198_131_16 : M198 131 16 = M194 131 16 := f197 131 16 (fun q => absurd q.1 (by decide))
                  have tM198_133_6 : M198 133 6 = M194 133 6 := f197 133 6 (fun q => absurd q.2 (by decide))
                  have tM198_133_1 : M198 133 1 = M194 133 1 := f197 133 1 (fun q => absurd q.2 (by decide))
                  have tM198_133_2 : M198 133 2 = M194 133 2 := f197 133 2 (fun q => absurd q.2 (by decide))
                  have tM198_133_4 : M198 133 4 = M194 133 4 := f197 133 4 (fun q => absurd q.2 (by decide))
                  have hq9 := wl_wr f197 (by omega)
                  have hL := hq9.2 hL
                  have cM198 := hq9.1
                  clear hq9
                  have hF := hF.wr f197 (by decide) (by decide)
                  have hW : WFk M198 := hW.site f197 (by decide)
                  have sf197 : M198 133 3 = v196 := sf197
                  exact hret _ 178 _ ⟨hI, hW⟩ ⟨hF, ⟨hL, by omega⟩⟩ dX12_readTouch_178
                · exact hret _ 135 _ ⟨hI, hW⟩ ⟨hF, ⟨hL, by omega⟩⟩ dX12_readTouch_135
              · refine z_iconst F dX12_readTouch_121 ?_
                refine z_goto (tgt := 126) F dX12_readTouch_122 (by decide +kernel) ?_
                refine z_istore F dX12_readTouch_126 (by decide) (ls' := [(4, ii 2), (3, ii v182), (2, ii 1), (1, ii v6), (0, .ref (ad 131))]) rfl ?_
                refine z_aload_n F dX12_readTouch_128 rfl (q := 4) rfl ?_
                refine gf_X12_108 F hI gs_131 rfl bd_131_12 dX12_readTouch_129 (fun v199 ev199 av199 bv199 => ?_)
                refine z_if_eq (tgt := 136) F dX12_readTouch_132 (by decide +kernel) (by omega) (fun c200 => ?_) (fun c200 => ?_)
                · refine z_aload_n F dX12_readTouch_136 rfl (q := 4) rfl ?_
                  refine rf_X12_13 F gs_131 rfl dX12_readTouch_137 ?_
                  refine z_bipush F dX12_readTouch_140 (by decide +kernel) ?_
                  refine z_bipush F dX12_readTouch_142 (by decide +kernel) ?_
                  refine z_iload_n F dX12_readTouch_144 rfl (q := 3) rfl ?_
                  refine z_imul F dX12_readTouch_145 ?_
                  refine z_iadd F dX12_readTouch_146 ?_
                  refine z_iload_n F dX12_readTouch_147 rfl (q := 1) rfl ?_
                  refine z_iadd F dX12_readTouch_148 ?_
                  refine z_iload F dX12_readTouch_149 (q := 0) rfl ?_
                  refine z_iast F hI gs_133 (by omega) (by omega) (by decide) (bd_133.trans (kn_touch (by omega) (by omega))) dX12_readTouch_151 (by omega) (by omega) (fun M202 hI sf201 f201 => ?_)
                  have tM202_131_7 : M202 131 7 = M186 131 7 := f201 131 7 (fun q => absurd q.1 (by decide))
                  have tM202_131_8 : M202 131 8 = M186 131 8 := f201 131 8 (fun q => absurd q.1 (by decide))
                  have tM202_131_9 : M202 131 9 = M186 131 9 := f201 131 9 (fun q => absurd q.1 (by decide))
                  have tM202_131_10 : M202 131 10 = M186 131 10 := f201 131 10 (fun q => absurd q.1 (by decide))
                  have tM202_131_12 : M202 131 12 = M186 131 12 := f201 131 12 (fun q => absurd q.1 (by decide))
                  have tM202_131_16 : M202 131 16 = M186 131 16 := f201 131 16 (fun q => absurd q.1 (by decide))
                  have tM202_133_6 : M202 133 6 = M186 133 6 := f201 133 6 (fun q => by have := q.2; omega)
                  have tM202_133_1 : M202 133 1 = M186 133 1 := f201 133 1 (fun q => by have := q.2; omega)
                  have tM202_133_2 : M202 133 2 = M186 133 2 := f201 133 2 (fun q => by have := q.2; omega)
                  have tM202_133_4 : M202 133 4 = M186 133 4 := f201 133 4 (fun q => by have := q.2; omega)
                  have hq9 := wl_wr f201 (by omega)
                  have hL := hq9.2 hL
                  have cM202 := hq9.1
                  clear hq9
                  have hF := hF.wr f201 (by decide) (by decide)
                  have hW : WFk M202 := hW.site f201 (by decide)
                  refine z_aload_n F dX12_readTouch_152 rfl (q := 4) rfl ?_
                  refine rf_X12_13 F gs_131 rfl dX12_readTouch_153 ?_
                  refine z_bipush F dX12_readTouch_156 (by decide +kernel) ?_
                  refine z_bipush F dX12_readTouch_158 (by decide +kernel) ?_
                  refine z_iload_n F dX12_readTouch_160 rfl (q := 1) rfl ?_
                  refine z_imul F dX12_readTouch_161 ?_
                  refine z_iadd F dX12_readTouch_162 ?_
                  refine z_iload_n F dX12_readTouch_163 rfl (q := 3) rfl ?_
                  refine z_iadd F dX12_readTouch_164 ?_
                  refine z_iload F dX12_readTouch_165 (q := 0) rfl ?_
                  refine z_iast F hI gs_133 (by omega) (by omega) (by decide) (bd_133.trans (kn_touch (by omega) (by omega))) dX12_readTouch_167 (by omega) (by omega) (fun M204 hI sf203 f203 => ?_)
                  have tM204_131_7 : M204 131 7 = M202 131 7 := f203 131 7 (fun q => absurd q.1 (by decide))
                  have tM204_131_8 : M204 131 8 = M202 131 8 := f203 131 8 (fun q => absurd q.1 (by decide))
                  have tM204_131_9 : M204 131 9 = M202 131 9 := f203 131 9 (fun q => absurd q.1 (by decide))
                  have tM204_131_10 : M204 131 10 = M202 131 10 := f203 131 10 (fun q => absurd q.1 (by decide))
                  have tM204_131_12 : M204 131 12 = M202 131 12 := f203 131 12 (fun q => absurd q.1 (by decide))
                  have tM204_131_16 : M204 131 16 = M202 131 16 := f203 131 16 (fun q => absurd q.1 (by decide))
                  have tM204_133_6 : M204 133 6 = M202 133 6 := f203 133 6 (fun q => by have := q.2; omega)
                  have tM204_133_1 : M204 133 1 = M202 133 1 := f203 133 1 (fun q => by have := q.2; omega)
                  have tM204_133_2 : M204 133 2 = M202 133 2 := f203 133 2 (fun q => by have := q.2; omega)
                  have tM204_133_4 : M204 133 4 = M202 133 4 := f203 133 4 (fun q => by have := q.2; omega)
                  have hq9 := wl_wr f203 (by omega)
                  have hL := hq9.2 hL
                  have cM204 := hq9.1
                  clear hq9
                  have hF := hF.wr f203 (by decide) (by decide)
                  have hW : WFk M204 := hW.site f203 (by decide)
                  refine z_aload_n F dX12_readTouch_168 rfl (q := 4) rfl ?_
                  refine rf_X12_13 F gs_131 rfl dX12_readTouch_169 ?_
                  refine z_iconst F dX12_readTouch_172 ?_
                  refine z_dup2 F dX12_readTouch_173 rfl rfl ?_
                  refine z_iald F hI gs_133 (by omega) (by omega) (by decide) (show Bd 133 3 = (-2147483648, 2147483647) from rfl) dX12_readTouch_174 (fun v205 (ev205 : v205 = M204 133 3) av205 bv205 => ?_)
                  refine z_iconst F dX12_readTouch_175 ?_
                  refine z_iadd F dX12_readTouch_176 ?_
                  refine z_wrap (fun v206 rv206 wv206 => ?_)
                  refine z_iast F hI gs_133 (by omega) (by omega) (by decide) (show Bd 133 3 = (-2147483648, 2147483647) from rfl) dX12_readTouch_177 (by omega) (by omega) (fun M208 hI sf207 f207 => ?_)
                  have tM208_131_7 : M208 131 7 = M204 131 7 := f207 131 7 (fun q => absurd q.1 (by decide))
                  have tM208_131_8 : M208 131 8 = M204 131 8 := f207 131 8 (fun q => absurd q.1 (by decide))
                  have tM208_131_9 : M208 131 9 = M204 131 9 := f207 131 9 (fun q => absurd q.1 (by decide))
                  have tM208_131_10 : M208 131 10 = M204 131 10 := f207 131 10 (fun q => absurd q.1 (by decide))
                  have tM208_131_12 : M208 131 12 = M204 131 12 := f207 131 12 (fun q => absurd q.1 (by decide))
                  have tM208_131_16 : M208 131 16 = M204 131 16 := f207 131 16 (fun q => absurd q.1 (by decide))
                  have tM208_133_6 : M208 133 6 = M204 133 6 := f207 133 6 (fun q => absurd q.2 (by decide))
                  have tM208_133_1 : M208 133 1 = M204 133 1 := f207 133 1 (fun q => absurd q.2 (by decide))
                  have tM208_133_2 : M208 133 2 = M204 133 2 := f207 133 2 (fun q => absurd q.2 (by decide))
                  have tM208_133_4 : M208 133 4 = M204 133 4 := f207 133 4 (fun q => absurd q.2 (by decide))
                  have hq9 := wl_wr f207 (by omega)
                  have hL := hq9.2 hL
                  have cM208 := hq9.1
                  clear hq9
                  have hF := hF.wr f207 (by decide) (by decide)
                  have hW : WFk M208 := hW.site f207 (by decide)
                  have sf207 : M208 133 3 = v206 := sf207
                  exact hret _ 178 _ ⟨hI, hW⟩ ⟨hF, ⟨hL, by omega⟩⟩ dX12_readTouch_178
                · exact hret _ 135 _ ⟨hI, hW⟩ ⟨hF, ⟨hL, by omega⟩⟩ dX12_readTouch_135
  · exact hret _ 10 _ ⟨hI, hW⟩ ⟨hF, ⟨hL, by omega⟩⟩ dX12_readTouch_10
set_option maxRecDepth 4000 in
theorem kp_X12_isWord_131_1061 (l : Launch) (M : Mem) (hJ : Iw M) (hp0 : M 131 9 ≤ M 131 8 ∧ M 131 8 ≤ M 131 7 ∧ (M 131 10 = 0 ∨ M 131 9 < M 131 8)) : CI l yX12_isWord cX12_isWord 4 (some .boolean) 5 (fun ad => [.ref (ad 131), .ref (ad 1061)]) M (fun z M' => (0 ≤ z ∧ z ≤ 1) ∧ M = M' ∧ (z = 1 → M 131 12 = 0 ∧ M 131 10 = 1)) := by
  obtain ⟨hI, hW⟩ := hJ
  refine en_z (by decide +kernel) (fun ad => by exact Nat.le_of_ble_eq_true rfl) (fun D cy ad A p e s m args below meth c Q F hret => ?_)
  refine z_eq (ls' := [(0, .ref (ad 131)), (1, .ref (ad 1061))]) rfl rfl rfl ?_
  obtain ⟨u1, eu1⟩ : ∃ v : Int, v = M 131 7 := ⟨_, rfl⟩
  have ku1 : 0 ≤ u1 ∧ u1 ≤ 900 := by have := hI.at (show Bd 131 7 = (0, 900) from rfl); omega
  obtain ⟨u2, eu2⟩ : ∃ v : Int, v = M 131 8 := ⟨_, rfl⟩
  have ku2 : 0 ≤ u2 ∧ u2 ≤ 900 := by have := hI.at (show Bd 131 8 = (0, 900) from rfl); omega
  obtain ⟨u3, eu3⟩ : ∃ v : Int, v = M 131 9 := ⟨_, rfl⟩
  have ku3 : 0 ≤ u3 ∧ u3 ≤ 900 := by have := hI.at (show Bd 131 9 = (0, 900) from rfl); omega
  obtain ⟨u4, eu4⟩ : ∃ v : Int, v = M 131 10 := ⟨_, rfl⟩
  have ku4 : (-2147483648) ≤ u4 ∧ u4 ≤ 2147483647 := by have := hI.at (show Bd 131 10 = (-2147483648, 2147483647) from rfl); omega
  obtain ⟨u5, eu5⟩ : ∃ v : Int, v = M 131 12 := ⟨_, rfl⟩
  have ku5 : 0 ≤ u5 ∧ u5 ≤ 4 := by have := hI.at (show Bd 131 12 = (0, 4) from rfl); omega
  obtain ⟨u6, eu6⟩ : ∃ v : Int, v = M 131 16 := ⟨_, rfl⟩
  have ku6 : (-2147483648) ≤ u6 ∧ u6 ≤ 2147483647 := by have := hI.at (show Bd 131 16 = (-2147483648, 2147483647) from rfl); omega
  refine z_aload_n F dX12_isWord_0 rfl (q := 0) rfl ?_
  refine gf_X12_108 F hI gs_131 rfl bd_131_12 dX12_isWord_1 (fun v7 ev7 av7 bv7 => ?_)
  have zv7 : u5 = v7 := eu5.trans ev7.symm
  subst zv7
  refine z_if_ne (tgt := 35) F dX12_isWord_4 (by decide +kernel) (by omega) (fun c8 => ?_) (fun c8 => ?_)
  · refine z_iconst F dX12_isWord_35 ?_
    refine z_istore_n F dX12_isWord_36 rfl (by decide) (ls' := [(2, ii 0), (0, .ref (ad 131)), (1, .ref (ad 1061))]) rfl ?_
    refine z_iconst F dX12_isWord_37 ?_
    refine z_istore_n F dX12_isWord_38 rfl (by decide) (ls' := [(3, ii 0), (2, ii 0), (0, .ref (ad 131)), (1, .ref (ad 1061))]) rfl ?_
    refine z_loc [2, 3, 1, 0] (ls' := [(0, .ref (ad 131)), (1, .ref (ad 1061)), (2, ii 0), (3, ii 0)]) rfl ?_
    suffices key39 : ∀ (n : Nat) (y10 : Int) (y11 : Int), 0 ≤ y10 → y10 ≤ 0 → 0 ≤ y11 → y11 ≤ 0 → (y10 = 1 → M 131 12 = 0 ∧ M 131 10 = 1 ∧ M 131 8 - M 131 9 = 5) → 0 < (n : Int) → Z D cy ad p l e (RMh 5) s m args below meth c A 4 0 0 Q 39 [(0, .ref (ad 131)), (1, .ref (ad 1061)), (2, ii y10), (3, ii y11)] [] M from key39 1 0 0 (by omega) (by omega) (by omega) (by omega) (by omega) (by omega)
    intro n39
    induction n39 with
    | zero => intro y10 y11 ay10 by10 ay11 by11 i39_0 hn39; exfalso; omega
    | succ n39 ih39 =>
      intro y10 y11 ay10 by10 ay11 by11 i39_0 hn39
      refine z_iload_n F dX12_isWord_39 rfl (q := 2) rfl ?_
      refine z_if_eq (tgt := 82) F dX12_isWord_40 (by decide +kernel) (by omega) (fun c12 => ?_) (fun c12 => by exfalso; omega)
      refine z_iload_n F dX12_isWord_82 rfl (q := 2) rfl ?_
      exact hret _ _ 83 _ ⟨by omega, by omega⟩ ⟨hI, hW⟩ ⟨⟨by omega, by omega⟩, rfl, (by omega)⟩ dX12_isWord_83
  · refine z_aload_n F dX12_isWord_7 rfl (q := 0) rfl ?_
    refine gf_X12_88 F hI gs_131 rfl bd_131_10 dX12_isWord_8 (fun v13 ev13 av13 bv13 => ?_)
    have zv13 : u4 = v13 := eu4.trans ev13.symm
    subst zv13
    refine z_iconst F dX12_isWord_11 ?_
    refine z_icmp_ne (tgt := 35) F dX12_isWord_12 (by decide +kernel) (by omega) (by omega) (fun c14 => ?_) (fun c14 => ?_)
    · refine z_iconst F dX12_isWord_35 ?_
      refine z_istore_n F dX12_isWord_36 rfl (by decide) (ls' := [(2, ii 0), (0, .ref (ad 131)), (1, .ref (ad 1061))]) rfl ?_
      refine z_iconst F dX12_isWord_37 ?_
      refine z_istore_n F dX12_isWord_38 rfl (by decide) (ls' := [(3, ii 0), (2, ii 0), (0, .ref (ad 131)), (1, .ref (ad 1061))]) rfl ?_
      refine z_loc [2, 3, 1, 0] (ls' := [(0, .ref (ad 131)), (1, .ref (ad 1061)), (2, ii 0), (3, ii 0)]) rfl ?_
      suffices key39 : ∀ (n : Nat) (y16 : Int) (y17 : Int), 0 ≤ y16 → y16 ≤ 0 → 0 ≤ y17 → y17 ≤ 0 → (y16 = 1 → M 131 12 = 0 ∧ M 131 10 = 1 ∧ M 131 8 - M 131 9 = 5) → 0 < (n : Int) → Z D cy ad p l e (RMh 5) s m args below meth c A 4 0 0 Q 39 [(0, .ref (ad 131)), (1, .ref (ad 1061)), (2, ii y16), (3, ii y17)] [] M from key39 1 0 0 (by omega) (by omega) (by omega) (by omega) (by omega) (by omega)
      intro n39
      induction n39 with
      | zero => intro y16 y17 ay16 by16 ay17 by17 i39_0 hn39; exfalso; omega
      | succ n39 ih39 =>
        intro y16 y17 ay16 by16 ay17 by17 i39_0 hn39
        refine z_iload_n F dX12_isWord_39 rfl (q := 2) rfl ?_
        refine z_if_eq (tgt := 82) F dX12_isWord_40 (by decide +kernel) (by omega) (fun c18 => ?_) (fun c18 => by exfalso; omega)
        refine z_iload_n F dX12_isWord_82 rfl (q := 2) rfl ?_
        exact hret _ _ 83 _ ⟨by omega, by omega⟩ ⟨hI, hW⟩ ⟨⟨by omega, by omega⟩, rfl, (by omega)⟩ dX12_isWord_83
    · refine z_aload_n F dX12_isWord_15 rfl (q := 0) rfl ?_
      refine gf_X12_82 F hI gs_131 rfl bd_131_8 dX12_isWord_16 (fun v19 ev19 av19 bv19 => ?_)
      have zv19 : u2 = v19 := eu2.trans ev19.symm
      subst zv19
      refine z_aload_n F dX12_isWord_19 rfl (q := 0) rfl ?_
      refine gf_X12_85 F hI gs_131 rfl bd_131_9 dX12_isWord_20 (fun v20 ev20 av20 bv20 => ?_)
      have zv20 : u3 = v20 := eu3.trans ev20.symm
      subst zv20
      refine z_isub F dX12_isWord_23 ?_
      refine z_aload_n F dX12_isWord_24 rfl (q := 1) rfl ?_
      refine zvs_i (i := 61) (rest := [ii (u2 - u3)]) F (kS_len l M ⟨hI, hW⟩ 61 (by decide)) cs_X12_114 (by decide) (by decide) (by decide) rfl rfl rfl (Nat.le_of_ble_eq_true rfl) dX12_isWord_25 (fun v21 M9 rv21 hI9 pv21 => ?_)
      obtain ⟨ev21, rfl⟩ := pv21
      obtain rfl : v21 = 5 := ev21.trans (show ((sbyt.getD 61 []).length : Int) = 5 from by decide)
      clear hI9
      refine z_icmp_ne (tgt := 35) F dX12_isWord_28 (by decide +kernel) (by omega) (by omega) (fun c22 => ?_) (fun c22 => ?_)
      · refine z_iconst F dX12_isWord_35 ?_
        refine z_istore_n F dX12_isWord_36 rfl (by decide) (ls' := [(2, ii 0), (0, .ref (ad 131)), (1, .ref (ad 1061))]) rfl ?_
        refine z_iconst F dX12_isWord_37 ?_
        refine z_istore_n F dX12_isWord_38 rfl (by decide) (ls' := [(3, ii 0), (2, ii 0), (0, .ref (ad 131)), (1, .ref (ad 1061))]) rfl ?_
        refine z_loc [2, 3, 1, 0] (ls' := [(0, .ref (ad 131)), (1, .ref (ad 1061)), (2, ii 0), (3, ii 0)]) rfl ?_
        suffices key39 : ∀ (n : Nat) (y24 : Int) (y25 : Int), 0 ≤ y24 → y24 ≤ 0 → 0 ≤ y25 → y25 ≤ 0 → (y24 = 1 → M 131 12 = 0 ∧ M 131 10 = 1 ∧ M 131 8 - M 131 9 = 5) → 0 < (n : Int) → Z D cy ad p l e (RMh 5) s m args below meth c A 4 0 0 Q 39 [(0, .ref (ad 131)), (1, .ref (ad 1061)), (2, ii y24), (3, ii y25)] [] M from key39 1 0 0 (by omega) (by omega) (by omega) (by omega) (by omega) (by omega)
        intro n39
        induction n39 with
        | zero => intro y24 y25 ay24 by24 ay25 by25 i39_0 hn39; exfalso; omega
        | succ n39 ih39 =>
          intro y24 y25 ay24 by24 ay25 by25 i39_0 hn39
          refine z_iload_n F dX12_isWord_39 rfl (q := 2) rfl ?_
          refine z_if_eq (tgt := 82) F dX12_isWord_40 (by decide +kernel) (by omega) (fun c26 => ?_) (fun c26 => by exfalso; omega)
          refine z_iload_n F dX12_isWord_82 rfl (q := 2) rfl ?_
          exact hret _ _ 83 _ ⟨by omega, by omega⟩ ⟨hI, hW⟩ ⟨⟨by omega, by omega⟩, rfl, (by omega)⟩ dX12_isWord_83
      · refine z_iconst F dX12_isWord_31 ?_
        refine z_goto (tgt := 36) F dX12_isWord_32 (by decide +kernel) ?_
        refine z_istore_n F dX12_isWord_36 rfl (by decide) (ls' := [(2, ii 1), (0, .ref (ad 131)), (1, .ref (ad 1061))]) rfl ?_
        refine z_iconst F dX12_isWord_37 ?_
        refine z_istore_n F dX12_isWord_38 rfl (by decide) (ls' := [(3, ii 0), (2, ii 1), (0, .ref (ad 131)), (1, .ref (ad 1061))]) rfl ?_
        refine z_loc [2, 3, 1, 0] (ls' := [(0, .ref (ad 131)), (1, .ref (ad 1061)), (2, ii 1), (3, ii 0)]) rfl ?_
        suffices key39 : ∀ (n : Nat) (y28 : Int) (y29 : Int), 0 ≤ y28 → y28 ≤ 1 → 0 ≤ y29 → y29 ≤ 5 → (y28 = 1 → M 131 12 = 0 ∧ M 131 10 = 1 ∧ M 131 8 - M 131 9 = 5) → 5 - y29 < (n : Int) → Z D cy ad p l e (RMh 5) s m args below meth c A 4 0 0 Q 39 [(0, .ref (ad 131)), (1, .ref (ad 1061)), (2, ii y28), (3, ii y29)] [] M from key39 6 1 0 (by omega) (by omega) (by omega) (by omega) (by omega) (by omega)
        intro n39
        induction n39 with
        | zero => intro y28 y29 ay28 by28 ay29 by29 i39_0 hn39; exfalso; omega
        | succ n39 ih39 =>
          intro y28 y29 ay28 by28 ay29 by29 i39_0 hn39
          refine z_iload_n F dX12_isWord_39 rfl (q := 2) rfl ?_
          refine z_if_eq (tgt := 82) F dX12_isWord_40 (by decide +kernel) (by omega) (fun c30 => ?_) (fun c30 => ?_)
          · refine z_iload_n F dX12_isWord_82 rfl (q := 2) rfl ?_
            exact hret _ _ 83 _ ⟨by omega, by omega⟩ ⟨hI, hW⟩ ⟨⟨by omega, by omega⟩, rfl, (by omega)⟩ dX12_isWord_83
          · refine z_iload_n F dX12_isWord_43 rfl (q := 3) rfl ?_
            refine z_aload_n F dX12_isWord_44 rfl (q := 1) rfl ?_
            refine zvs_i (i := 61) (rest := [ii y29]) F (kS_len l M ⟨hI, hW⟩ 61 (by decide)) cs_X12_114 (by decide) (by decide) (by decide) rfl rfl rfl (Nat.le_of_ble_eq_true rfl) dX12_isWord_45 (fun v31 M9 rv31 hI9 pv31 => ?_)
            obtain ⟨ev31, rfl⟩ := pv31
            obtain rfl : v31 = 5 := ev31.trans (show ((sbyt.getD 61 []).length : Int) = 5 from by decide)
            clear hI9
            refine z_icmp_ge (tgt := 82) F dX12_isWord_48 (by decide +kernel) (by omega) (by omega) (fun c32 => ?_) (fun c32 => ?_)
            · refine z_iload_n F dX12_isWord_82 rfl (q := 2) rfl ?_
              exact hret _ _ 83 _ ⟨by omega, by omega⟩ ⟨hI, hW⟩ ⟨⟨by omega, by omega⟩, rfl, (by omega)⟩ dX12_isWord_83
            · refine z_aload_n F dX12_isWord_51 rfl (q := 0) rfl ?_
              refine rf_X12_23 F gs_131 rfl dX12_isWord_52 ?_
              refine z_aload_n F dX12_isWord_55 rfl (q := 0) rfl ?_
              refine gf_X12_85 F hI gs_131 rfl bd_131_9 dX12_isWord_56 (fun v33 ev33 av33 bv33 => ?_)
              have zv33 : u3 = v33 := eu3.trans ev33.symm
              subst zv33
              refine z_iload_n F dX12_isWord_59 rfl (q := 3) rfl ?_
              refine z_iadd F dX12_isWord_60 ?_
              have k34 : 0 ≤ (u3 + y29) ∧ (u3 + y29) ≤ 899 := by omega
              refine z_iald F hI gs_136 (by omega) (by omega) (by decide) bd_136 dX12_isWord_61 (fun v35 (ev35 : v35 = M 136 _) av35 bv35 => ?_)
              refine z_aload_n F dX12_isWord_62 rfl (q := 1) rfl ?_
              refine z_iload_n F dX12_isWord_63 rfl (q := 3) rfl ?_
              refine zvs_i (i := 61) (rest := [ii v35]) F (kS_chr l M ⟨hI, hW⟩ 61 (by decide) y29 (by omega) (show y29 < ((sbyt.getD 61 []).length : Int) from by rw [show ((sbyt.getD 61 []).length : Int) = 5 from by decide]; omega)) cs_X12_119 (by decide) (by decide) (by decide) rfl rfl rfl (Nat.le_of_ble_eq_true rfl) dX12_isWord_64 (fun v36 M9 rv36 hI9 pv36 => ?_)
              obtain ⟨⟨av36, bv36⟩, rfl⟩ := pv36
              clear hI9
              refine z_icmp_ne (tgt := 74) F dX12_isWord_67 (by decide +kernel) (by omega) (by omega) (fun c37 => ?_) (fun c37 => ?_)
              · refine z_iconst F dX12_isWord_74 ?_
                refine z_istore_n F dX12_isWord_75 rfl (by decide) (ls' := [(2, ii 0), (0, .ref (ad 131)), (1, .ref (ad 1061)), (3, ii y29)]) rfl ?_
                refine z_iincN F dX12_isWord_76 (q := 3) rfl (by decide) (fun v38 ev38 => ?_)
                refine z_eq (ls' := [(3, ii v38), (2, ii 0), (0, .ref (ad 131)), (1, .ref (ad 1061))]) rfl rfl rfl ?_
                refine z_goto (tgt := 39) F dX12_isWord_79 (by decide +kernel) ?_
                refine z_loc [2, 3, 1, 0] (ls' := [(0, .ref (ad 131)), (1, .ref (ad 1061)), (2, ii 0), (3, ii v38)]) rfl ?_
                exact ih39 0 v38 (by omega) (by omega) (by omega) (by omega) (by omega) (by omega)
              · refine z_iconst F dX12_isWord_70 ?_
                refine z_goto (tgt := 75) F dX12_isWord_71 (by decide +kernel) ?_
                refine z_istore_n F dX12_isWord_75 rfl (by decide) (ls' := [(2, ii 1), (0, .ref (ad 131)), (1, .ref (ad 1061)), (3, ii y29)]) rfl ?_
                refine z_iincN F dX12_isWord_76 (q := 3) rfl (by decide) (fun v39 ev39 => ?_)
                refine z_eq (ls' := [(3, ii v39), (2, ii 1), (0, .ref (ad 131)), (1, .ref (ad 1061))]) rfl rfl rfl ?_
                refine z_goto (tgt := 39) F dX12_isWord_79 (by decide +kernel) ?_
                refine z_loc [2, 3, 1, 0] (ls' := [(0, .ref (ad 131)), (1, .ref (ad 1061)), (2, ii 1), (3, ii v39)]) rfl ?_
                exact ih39 1 v39 (by omega) (by omega) (by omega) (by omega) (by omega) (by omega)
set_option maxRecDepth 4000 in
theorem kp_X12_took_131_1061 (l : Launch) (M : Mem) (hJ : Iw M) (hp0 : M 131 9 ≤ M 131 8 ∧ M 131 8 ≤ M 131 7 ∧ (M 131 10 = 0 ∨ M 131 9 < M 131 8)) : CI l yX12_took cX12_took 3 (some .boolean) 6 (fun ad => [.ref (ad 131), .ref (ad 1061)]) M (fun z M' => (0 ≤ z ∧ z ≤ 1) ∧ Fr [131] M M' ∧ (M' 131 7 = M 131 7 ∧ M' 131 16 = M 131 16 ∧ M 131 9 ≤ M' 131 9 ∧ M' 131 9 ≤ M' 131 8 ∧ M' 131 8 ≤ M' 131 7 ∧ (M' 131 10 = 0 ∨ M' 131 9 < M' 131 8) ∧ M' 131 12 = M 131 12 ∧ (z = 1 → M 131 12 = 0 ∧ M 131 9 < M' 131 9))) := by
  obtain ⟨hI, hW⟩ := hJ
  have hF : Fr [131] M M := Fr.rf
  refine en_z (by decide +kernel) (fun ad => by exact Nat.le_of_ble_eq_true rfl) (fun D cy ad A p e s m args below meth c Q F hret => ?_)
  refine z_eq (ls' := [(0, .ref (ad 131)), (1, .ref (ad 1061))]) rfl rfl rfl ?_
  refine z_aload_n F dX12_took_0 rfl (q := 0) rfl ?_
  refine z_aload_n F dX12_took_1 rfl (q := 1) rfl ?_
  refine zv_i (rest := []) F (kp_X12_isWord_131_1061 l M ⟨hI, hW⟩ (by omega)) cs_X12_123 (T := TX12) (N := 44) (ci := 12) rfl gs_131 (by decide) (by decide) rfl rfl rfl (Nat.le_of_ble_eq_true rfl) dX12_took_2 (fun v1 M2 rv1 hI p3 => ?_)
  obtain ⟨hI, hW⟩ := hI
  obtain ⟨⟨av1, bv1⟩, rfl, xp3⟩ := p3
  refine z_istore_n F dX12_took_5 rfl (by decide) (ls' := [(2, ii v1), (0, .ref (ad 131)), (1, .ref (ad 1061))]) rfl ?_
  refine z_iload_n F dX12_took_6 rfl (q := 0) rfl ?_
  refine z_if_eq (tgt := 14) F dX12_took_7 (by decide +kernel) (by omega) (fun c4 => ?_) (fun c4 => ?_)
  · refine z_iload_n F dX12_took_14 rfl (q := 0) rfl ?_
    exact hret _ _ 15 _ ⟨by omega, by omega⟩ ⟨hI, hW⟩ ⟨⟨by omega, by omega⟩, hF, (by omega)⟩ dX12_took_15
  · refine z_aload_n F dX12_took_10 rfl (q := 1) rfl ?_
    refine zv_v (rest := []) F (kp_X12_readsOn l M ⟨hI, hW⟩ (by omega)) cs_X12_127 (T := TX12) (N := 44) (ci := 12) rfl gs_131 (by decide) (by decide) rfl rfl rfl (Nat.le_of_ble_eq_true rfl) dX12_took_11 (fun M5 hI p6 => ?_)
    obtain ⟨hI, hW⟩ := hI
    obtain ⟨fp6, xp6⟩ := p6
    have hF := hF.call fp6 (by decide)
    have tM5_133_6 : M5 133 6 = M 133 6 := fp6.at (by decide)
    have tM5_133_1 : M5 133 1 = M 133 1 := fp6.at (by decide)
    refine z_iload_n F dX12_took_14 rfl (q := 0) rfl ?_
    exact hret _ _ 15 _ ⟨by omega, by omega⟩ ⟨hI, hW⟩ ⟨⟨by omega, by omega⟩, hF, (by omega)⟩ dX12_took_15
