theorem dX12_readThing_0 : decode cX12_readThing 0 = .ok (.aload_n 0, 1) := by decide +kernel
theorem dX12_readThing_1 : decode cX12_readThing 1 = .ok (.iconst 2, 1) := by decide +kernel
theorem dX12_readThing_10 : decode cX12_readThing 10 = .ok (.return_, 1) := by decide +kernel
theorem dX12_readThing_101 : decode cX12_readThing 101 = .ok (.invokevirtual 199, 3) := by decide +kernel
theorem dX12_readThing_104 : decode cX12_readThing 104 = .ok (.goto 4, 3) := by decide +kernel
theorem dX12_readThing_107 : decode cX12_readThing 107 = .ok (.iconst 1, 1) := by decide +kernel
theorem dX12_readThing_108 : decode cX12_readThing 108 = .ok (.istore 4, 2) := by decide +kernel
theorem dX12_readThing_11 : decode cX12_readThing 11 = .ok (.aload_n 0, 1) := by decide +kernel
theorem dX12_readThing_110 : decode cX12_readThing 110 = .ok (.aload_n 0, 1) := by decide +kernel
theorem dX12_readThing_111 : decode cX12_readThing 111 = .ok (.ldc 223, 2) := by decide +kernel
theorem dX12_readThing_113 : decode cX12_readThing 113 = .ok (.invokevirtual 130, 3) := by decide +kernel
theorem dX12_readThing_116 : decode cX12_readThing 116 = .ok (.istore 5, 2) := by decide +kernel
theorem dX12_readThing_118 : decode cX12_readThing 118 = .ok (.aload_n 0, 1) := by decide +kernel
theorem dX12_readThing_119 : decode cX12_readThing 119 = .ok (.getfield 108, 3) := by decide +kernel
theorem dX12_readThing_12 : decode cX12_readThing 12 = .ok (.getfield 88, 3) := by decide +kernel
theorem dX12_readThing_122 : decode cX12_readThing 122 = .ok (.ifCond .eq 4, 3) := by decide +kernel
theorem dX12_readThing_125 : decode cX12_readThing 125 = .ok (.return_, 1) := by decide +kernel
theorem dX12_readThing_126 : decode cX12_readThing 126 = .ok (.aload_n 0, 1) := by decide +kernel
theorem dX12_readThing_127 : decode cX12_readThing 127 = .ok (.getfield 13, 3) := by decide +kernel
theorem dX12_readThing_130 : decode cX12_readThing 130 = .ok (.iconst 2, 1) := by decide +kernel
theorem dX12_readThing_131 : decode cX12_readThing 131 = .ok (.iaload, 1) := by decide +kernel
theorem dX12_readThing_132 : decode cX12_readThing 132 = .ok (.istore 6, 2) := by decide +kernel
theorem dX12_readThing_134 : decode cX12_readThing 134 = .ok (.aload_n 0, 1) := by decide +kernel
theorem dX12_readThing_135 : decode cX12_readThing 135 = .ok (.getfield 13, 3) := by decide +kernel
theorem dX12_readThing_138 : decode cX12_readThing 138 = .ok (.bipush 8, 2) := by decide +kernel
theorem dX12_readThing_140 : decode cX12_readThing 140 = .ok (.iload 6, 2) := by decide +kernel
theorem dX12_readThing_142 : decode cX12_readThing 142 = .ok (.iadd, 1) := by decide +kernel
theorem dX12_readThing_143 : decode cX12_readThing 143 = .ok (.iload_n 1, 1) := by decide +kernel
theorem dX12_readThing_144 : decode cX12_readThing 144 = .ok (.iastore, 1) := by decide +kernel
theorem dX12_readThing_145 : decode cX12_readThing 145 = .ok (.aload_n 0, 1) := by decide +kernel
theorem dX12_readThing_146 : decode cX12_readThing 146 = .ok (.getfield 13, 3) := by decide +kernel
theorem dX12_readThing_149 : decode cX12_readThing 149 = .ok (.bipush 16, 2) := by decide +kernel
theorem dX12_readThing_15 : decode cX12_readThing 15 = .ok (.iconst 2, 1) := by decide +kernel
theorem dX12_readThing_151 : decode cX12_readThing 151 = .ok (.iload 6, 2) := by decide +kernel
theorem dX12_readThing_153 : decode cX12_readThing 153 = .ok (.iadd, 1) := by decide +kernel
theorem dX12_readThing_154 : decode cX12_readThing 154 = .ok (.iload_n 2, 1) := by decide +kernel
theorem dX12_readThing_155 : decode cX12_readThing 155 = .ok (.iastore, 1) := by decide +kernel
theorem dX12_readThing_156 : decode cX12_readThing 156 = .ok (.aload_n 0, 1) := by decide +kernel
theorem dX12_readThing_157 : decode cX12_readThing 157 = .ok (.getfield 13, 3) := by decide +kernel
theorem dX12_readThing_16 : decode cX12_readThing 16 = .ok (.if_icmp .ne 23, 3) := by decide +kernel
theorem dX12_readThing_160 : decode cX12_readThing 160 = .ok (.bipush 26, 2) := by decide +kernel
theorem dX12_readThing_162 : decode cX12_readThing 162 = .ok (.iload 6, 2) := by decide +kernel
theorem dX12_readThing_164 : decode cX12_readThing 164 = .ok (.iadd, 1) := by decide +kernel
theorem dX12_readThing_165 : decode cX12_readThing 165 = .ok (.iload_n 3, 1) := by decide +kernel
theorem dX12_readThing_166 : decode cX12_readThing 166 = .ok (.iastore, 1) := by decide +kernel
theorem dX12_readThing_167 : decode cX12_readThing 167 = .ok (.aload_n 0, 1) := by decide +kernel
theorem dX12_readThing_168 : decode cX12_readThing 168 = .ok (.getfield 13, 3) := by decide +kernel
theorem dX12_readThing_171 : decode cX12_readThing 171 = .ok (.bipush 34, 2) := by decide +kernel
theorem dX12_readThing_173 : decode cX12_readThing 173 = .ok (.iload 6, 2) := by decide +kernel
theorem dX12_readThing_175 : decode cX12_readThing 175 = .ok (.iadd, 1) := by decide +kernel
theorem dX12_readThing_176 : decode cX12_readThing 176 = .ok (.iload 4, 2) := by decide +kernel
theorem dX12_readThing_178 : decode cX12_readThing 178 = .ok (.iastore, 1) := by decide +kernel
theorem dX12_readThing_179 : decode cX12_readThing 179 = .ok (.aload_n 0, 1) := by decide +kernel
theorem dX12_readThing_180 : decode cX12_readThing 180 = .ok (.getfield 13, 3) := by decide +kernel
theorem dX12_readThing_183 : decode cX12_readThing 183 = .ok (.bipush 42, 2) := by decide +kernel
theorem dX12_readThing_185 : decode cX12_readThing 185 = .ok (.iload 6, 2) := by decide +kernel
theorem dX12_readThing_187 : decode cX12_readThing 187 = .ok (.iadd, 1) := by decide +kernel
theorem dX12_readThing_188 : decode cX12_readThing 188 = .ok (.iload 5, 2) := by decide +kernel
theorem dX12_readThing_19 : decode cX12_readThing 19 = .ok (.aload_n 0, 1) := by decide +kernel
theorem dX12_readThing_190 : decode cX12_readThing 190 = .ok (.ifCond .eq 7, 3) := by decide +kernel
theorem dX12_readThing_193 : decode cX12_readThing 193 = .ok (.iconst 1, 1) := by decide +kernel
theorem dX12_readThing_194 : decode cX12_readThing 194 = .ok (.goto 4, 3) := by decide +kernel
theorem dX12_readThing_197 : decode cX12_readThing 197 = .ok (.iconst 0, 1) := by decide +kernel
theorem dX12_readThing_198 : decode cX12_readThing 198 = .ok (.iastore, 1) := by decide +kernel
theorem dX12_readThing_199 : decode cX12_readThing 199 = .ok (.aload_n 0, 1) := by decide +kernel
theorem dX12_readThing_2 : decode cX12_readThing 2 = .ok (.bipush 8, 2) := by decide +kernel
theorem dX12_readThing_20 : decode cX12_readThing 20 = .ok (.getfield 13, 3) := by decide +kernel
theorem dX12_readThing_200 : decode cX12_readThing 200 = .ok (.getfield 13, 3) := by decide +kernel
theorem dX12_readThing_203 : decode cX12_readThing 203 = .ok (.iconst 2, 1) := by decide +kernel
theorem dX12_readThing_204 : decode cX12_readThing 204 = .ok (.dup2, 1) := by decide +kernel
theorem dX12_readThing_205 : decode cX12_readThing 205 = .ok (.iaload, 1) := by decide +kernel
theorem dX12_readThing_206 : decode cX12_readThing 206 = .ok (.iconst 1, 1) := by decide +kernel
theorem dX12_readThing_207 : decode cX12_readThing 207 = .ok (.iadd, 1) := by decide +kernel
theorem dX12_readThing_208 : decode cX12_readThing 208 = .ok (.iastore, 1) := by decide +kernel
theorem dX12_readThing_209 : decode cX12_readThing 209 = .ok (.return_, 1) := by decide +kernel
theorem dX12_readThing_23 : decode cX12_readThing 23 = .ok (.aload_n 0, 1) := by decide +kernel
theorem dX12_readThing_24 : decode cX12_readThing 24 = .ok (.getfield 102, 3) := by decide +kernel
theorem dX12_readThing_27 : decode cX12_readThing 27 = .ok (.invokestatic 209, 3) := by decide +kernel
theorem dX12_readThing_30 : decode cX12_readThing 30 = .ok (.iconst (-1), 1) := by decide +kernel
theorem dX12_readThing_31 : decode cX12_readThing 31 = .ok (.if_icmp .eq 8, 3) := by decide +kernel
theorem dX12_readThing_34 : decode cX12_readThing 34 = .ok (.aload_n 0, 1) := by decide +kernel
theorem dX12_readThing_35 : decode cX12_readThing 35 = .ok (.iconst 3, 1) := by decide +kernel
theorem dX12_readThing_36 : decode cX12_readThing 36 = .ok (.invokevirtual 133, 3) := by decide +kernel
theorem dX12_readThing_39 : decode cX12_readThing 39 = .ok (.aload_n 0, 1) := by decide +kernel
theorem dX12_readThing_4 : decode cX12_readThing 4 = .ok (.invokevirtual 203, 3) := by decide +kernel
theorem dX12_readThing_40 : decode cX12_readThing 40 = .ok (.iconst 0, 1) := by decide +kernel
theorem dX12_readThing_41 : decode cX12_readThing 41 = .ok (.aload_n 0, 1) := by decide +kernel
theorem dX12_readThing_42 : decode cX12_readThing 42 = .ok (.getfield 13, 3) := by decide +kernel
theorem dX12_readThing_45 : decode cX12_readThing 45 = .ok (.iconst 1, 1) := by decide +kernel
theorem dX12_readThing_46 : decode cX12_readThing 46 = .ok (.iaload, 1) := by decide +kernel
theorem dX12_readThing_47 : decode cX12_readThing 47 = .ok (.iconst 1, 1) := by decide +kernel
theorem dX12_readThing_48 : decode cX12_readThing 48 = .ok (.isub, 1) := by decide +kernel
theorem dX12_readThing_49 : decode cX12_readThing 49 = .ok (.invokevirtual 199, 3) := by decide +kernel
theorem dX12_readThing_52 : decode cX12_readThing 52 = .ok (.istore_n 1, 1) := by decide +kernel
theorem dX12_readThing_53 : decode cX12_readThing 53 = .ok (.aload_n 0, 1) := by decide +kernel
theorem dX12_readThing_54 : decode cX12_readThing 54 = .ok (.ldc 213, 2) := by decide +kernel
theorem dX12_readThing_56 : decode cX12_readThing 56 = .ok (.invokevirtual 215, 3) := by decide +kernel
theorem dX12_readThing_59 : decode cX12_readThing 59 = .ok (.aload_n 0, 1) := by decide +kernel
theorem dX12_readThing_60 : decode cX12_readThing 60 = .ok (.iconst 0, 1) := by decide +kernel
theorem dX12_readThing_61 : decode cX12_readThing 61 = .ok (.bipush 99, 2) := by decide +kernel
theorem dX12_readThing_63 : decode cX12_readThing 63 = .ok (.invokevirtual 199, 3) := by decide +kernel
theorem dX12_readThing_66 : decode cX12_readThing 66 = .ok (.istore_n 2, 1) := by decide +kernel
theorem dX12_readThing_67 : decode cX12_readThing 67 = .ok (.aload_n 0, 1) := by decide +kernel
theorem dX12_readThing_68 : decode cX12_readThing 68 = .ok (.ldc 219, 2) := by decide +kernel
theorem dX12_readThing_7 : decode cX12_readThing 7 = .ok (.ifCond .ne 4, 3) := by decide +kernel
theorem dX12_readThing_70 : decode cX12_readThing 70 = .ok (.invokevirtual 130, 3) := by decide +kernel
theorem dX12_readThing_73 : decode cX12_readThing 73 = .ok (.ifCond .eq 13, 3) := by decide +kernel
theorem dX12_readThing_76 : decode cX12_readThing 76 = .ok (.aload_n 0, 1) := by decide +kernel
theorem dX12_readThing_77 : decode cX12_readThing 77 = .ok (.iconst 0, 1) := by decide +kernel
theorem dX12_readThing_78 : decode cX12_readThing 78 = .ok (.bipush 9, 2) := by decide +kernel
theorem dX12_readThing_80 : decode cX12_readThing 80 = .ok (.invokevirtual 199, 3) := by decide +kernel
theorem dX12_readThing_83 : decode cX12_readThing 83 = .ok (.goto 4, 3) := by decide +kernel
theorem dX12_readThing_86 : decode cX12_readThing 86 = .ok (.iconst 0, 1) := by decide +kernel
theorem dX12_readThing_87 : decode cX12_readThing 87 = .ok (.istore_n 3, 1) := by decide +kernel
theorem dX12_readThing_88 : decode cX12_readThing 88 = .ok (.aload_n 0, 1) := by decide +kernel
theorem dX12_readThing_89 : decode cX12_readThing 89 = .ok (.ldc 221, 2) := by decide +kernel
theorem dX12_readThing_91 : decode cX12_readThing 91 = .ok (.invokevirtual 130, 3) := by decide +kernel
theorem dX12_readThing_94 : decode cX12_readThing 94 = .ok (.ifCond .eq 13, 3) := by decide +kernel
theorem dX12_readThing_97 : decode cX12_readThing 97 = .ok (.aload_n 0, 1) := by decide +kernel
theorem dX12_readThing_98 : decode cX12_readThing 98 = .ok (.iconst 1, 1) := by decide +kernel
theorem dX12_readThing_99 : decode cX12_readThing 99 = .ok (.bipush 9, 2) := by decide +kernel
set_option maxHeartbeats 4000000 in
set_option maxRecDepth 4000 in
theorem kp_X12_readThing (l : Launch) (M : Mem) (hJ : Iw M) (hp0 : 0 ≤ M 131 9 ∧ M 131 9 ≤ M 131 8 ∧ M 131 8 ≤ M 131 7 ∧ M 131 7 ≤ 900 ∧ (M 131 10 = 0 ∨ M 131 9 < M 131 8)) (hp1 : M 133 6 ≤ M 131 9) (hp2 : Wl M) (hp3 : M 131 16 = 0) : CV l yX12_readThing cX12_readThing 7 none 8 (fun ad => [.ref (ad 131)]) M (fun M' => Fr [131, 133, 233] M M' ∧ (Wl M' ∧ M' 131 7 = M 131 7 ∧ M' 131 16 = M 131 16 ∧ M 131 9 ≤ M' 131 9 ∧ 0 ≤ M' 131 9 ∧ M' 131 9 ≤ M' 131 8 ∧ M' 131 8 ≤ M' 131 7 ∧ M' 131 7 ≤ 900 ∧ (M' 131 10 = 0 ∨ M' 131 9 < M' 131 8) ∧ M' 133 6 = M 133 6 ∧ M' 133 1 = M 133 1 ∧ (M' 131 12 = 0 → M 131 12 = 0)) ∧ (Im (M 131 12 = 0) (Im (¬ M 131 10 = 3) (tR M' = thingF (absR M, dR M))))) := by
  obtain ⟨hI, hW⟩ := hJ
  have hF : Fr [131, 133, 233] M M := Fr.rf
  have hI0 := hI
  have hW0 := hW
  refine en_v (by decide +kernel) (fun ad => by exact Nat.le_of_ble_eq_true rfl) (fun D cy ad A p e s m args below meth c Q F hret => ?_)
  refine z_eq (ls' := [(0, .ref (ad 131))]) rfl rfl rfl ?_
  have hL := hp2
  obtain ⟨g1, g2, g3, g4, hT⟩ := hp0
  have hT : Tk M := hT
  have kbM : 0 ≤ M 131 12 ∧ M 131 12 ≤ 4 := hI.at (show Bd 131 12 = (0, 4) from rfl)
  have b1 := hI0.at (show Bd 133 1 = (0, 10) from rfl)
  refine z_aload_n F dX12_readThing_0 rfl (q := 0) rfl ?_
  refine z_iconst F dX12_readThing_1 ?_
  refine z_bipush F dX12_readThing_2 (by decide +kernel) ?_
  refine zv_i (rest := []) F (kp_X12_begins l M ⟨hI, hW⟩ 2 (by omega) (by omega) 8 (by omega) (by omega) ⟨by omega, by omega, by omega, by omega, hT⟩) cs_X12_203 (T := TX12) (N := 44) (ci := 12) rfl gs_131 (by decide) (by decide) rfl rfl rfl (Nat.le_of_ble_eq_true rfl) dX12_readThing_4 (fun v1 M2 rv1 hI p3 => ?_)
  obtain ⟨hI, hW⟩ := hI
  obtain ⟨⟨av1, bv1⟩, fp3, xp3, yp3⟩ := p3
  have hF := hF.call fp3 (by decide)
  have tM2_133_6 : M2 133 6 = M 133 6 := fp3.at (by decide)
  have tM2_133_1 : M2 133 1 = M 133 1 := fp3.at (by decide)
  have tM2_133_2 : M2 133 2 = M 133 2 := fp3.at (by decide)
  have tM2_133_4 : M2 133 4 = M 133 4 := fp3.at (by decide)
  have tM2_133_3 : M2 133 3 = M 133 3 := fp3.at (by decide)
  have hq9 := wl_fr fp3 (by decide)
  have hL := hq9.2 hL
  have cM2 := hq9.1
  clear hq9
  have hbv1 : M 133 (2 : Int).toNat = M 133 2 := rfl
  obtain ⟨qp3_0, qp3_1, qp3_2, qp3_3, qp3_4, qp3_5, qp3_6, qp3_7, qp3_8, qp3_9, qp3_10⟩ := xp3
  have kbM2 : 0 ≤ M2 131 12 ∧ M2 131 12 ≤ 4 := hI.at (show Bd 131 12 = (0, 4) from rfl)
  have hT : Tk M2 := qp3_7
  clear qp3_7
  have lbqp3_9 : M 131 12 ≤ 4 * M2 131 12 := by omega
  clear qp3_9
  refine z_if_ne (tgt := 11) F dX12_readThing_7 (by decide +kernel) (by omega) (fun c4 => ?_) (fun c4 => ?_)
  · have h0 : M 131 12 = 0 := by omega
    have a1 : Im (¬ M 131 10 = 3) (th1 (dR M) (absR M) = absR M2) := fun ht => yp3 h0 ht (show M 133 2 ≤ 8 from (hI0.at (show Bd 133 2 = (0, 8) from rfl)).2)
    have cut39 : ∀ (M5 : Mem), Inv M5 → WFk M5 → Fr [131, 133, 233] M M5 → (0 ≤ M5 131 9 ∧ M5 131 9 ≤ M5 131 8 ∧ M5 131 8 ≤ M5 131 7 ∧ M5 131 7 ≤ 900) → (M5 131 7 = M 131 7 ∧ M5 131 16 = M 131 16 ∧ M 131 9 ≤ M5 131 9 ∧ M5 133 6 = M 133 6 ∧ M5 133 1 = M 133 1 ∧ M5 133 2 = M 133 2 ∧ M5 133 4 = M 133 4 ∧ M5 133 3 = M 133 3 ∧ M 131 12 ≤ 4 * M5 131 12 ∧ 0 ≤ M5 131 12 ∧ M5 131 12 ≤ 4) → (Wl M5) → (Tk M5) → (Im (¬ M 131 10 = 3) (numB 0 (M 133 1 - 1) noB (absR M5) = th2 (dR M) (absR M))) → (Im (¬ M 131 10 = 3) (Im (M5 131 12 = 0) (absR M5 = th1 (dR M) (absR M)))) → (M2 131 12 ≤ 4 * M5 131 12) → (dR M5 = dR M) → Z D cy ad p l e (RMh 8) s m args below meth c A 7 0 0 Q 39 [(0, .ref (ad 131))] [] M5 := by
      intro M5 hI hW hF j39_0 j39_1 j39_2 j39_3 j39_4 j39_5 j39_6 j39_7
      have hL := j39_2
      have hT := j39_3
      refine z_aload_n F dX12_readThing_39 rfl (q := 0) rfl ?_
      refine z_iconst F dX12_readThing_40 ?_
      refine z_aload_n F dX12_readThing_41 rfl (q := 0) rfl ?_
      refine rf_X12_13 F gs_131 rfl dX12_readThing_42 ?_
      refine z_iconst F dX12_readThing_45 ?_
      refine z_iald F hI gs_133 (by omega) (by omega) (by decide) (show Bd 133 1 = (0, 10) from rfl) dX12_readThing_46 (fun v6 (ev6 : v6 = M5 133 1) av6 bv6 => ?_)
      refine z_iconst F dX12_readThing_47 ?_
      refine z_isub F dX12_readThing_48 ?_
      refine zv_i (rest := []) F (kp_X12_number l M5 ⟨hI, hW⟩ 0 (by omega) (by omega) (v6 - 1) (by omega) (by omega) ⟨by omega, by omega, by omega, by omega, hT⟩) cs_X12_199 (T := TX12) (N := 44) (ci := 12) rfl gs_131 (by decide) (by decide) rfl rfl rfl (Nat.le_of_ble_eq_true rfl) dX12_readThing_49 (fun v7 M8 rv7 hI p9 => ?_)
      obtain ⟨hI, hW⟩ := hI
      obtain ⟨⟨av7, bv7⟩, fp9, xp9, yp9⟩ := p9
      have hF := hF.call fp9 (by decide)
      have tM8_133_6 : M8 133 6 = M5 133 6 := fp9.at (by decide)
      have tM8_133_1 : M8 133 1 = M5 133 1 := fp9.at (by decide)
      have tM8_133_2 : M8 133 2 = M5 133 2 := fp9.at (by decide)
      have tM8_133_4 : M8 133 4 = M5 133 4 := fp9.at (by decide)
      have tM8_133_3 : M8 133 3 = M5 133 3 := fp9.at (by decide)
      have hq9 := wl_fr fp9 (by decide)
      have hL := hq9.2 hL
      have cM8 := hq9.1
      clear hq9
      have hkv7 : 0 ≤ v7 ∧ v7 ≤ 9 := by omega
      obtain ⟨qp9_0, qp9_1, qp9_2, qp9_3, qp9_4, qp9_5, qp9_6, qp9_7, qp9_8, qp9_9⟩ := xp9
      have kbM8 : 0 ≤ M8 131 12 ∧ M8 131 12 ≤ 4 := hI.at (show Bd 131 12 = (0, 4) from rfl)
      have hT : Tk M8 := qp9_7
      clear qp9_7
      clear qp9_8
      have lbqp9_9 : M5 131 12 ≤ 4 * M8 131 12 := by omega
      have lpqp9_9 : M5 131 9 + 1 ≤ M8 131 9 + M8 131 12 := by omega
      clear qp9_9
      refine z_istore_n F dX12_readThing_52 rfl (by decide) (ls' := [(1, ii v7), (0, .ref (ad 131))]) rfl ?_
      refine z_aload_n F dX12_readThing_53 rfl (q := 1) rfl ?_
      refine z_ldcS (j := 61) F dX12_readThing_54 rfl rfl rfl ?_
      refine z_eq (st' := [.ref (ad 1061), .ref (ad 131)]) rfl rfl rfl ?_
      refine zv_v (rest := []) F (kp_X12_mustWord_131_1061 l M8 ⟨hI, hW⟩ ⟨by omega, by omega, by omega, by omega, hT⟩) cs_X12_215 (T := TX12) (N := 44) (ci := 12) rfl gs_131 (by decide) (by decide) rfl rfl rfl (Nat.le_of_ble_eq_true rfl) dX12_readThing_56 (fun M10 hI p11 => ?_)
      obtain ⟨hI, hW⟩ := hI
      obtain ⟨fp11, xp11, yp11⟩ := p11
      have hF := hF.call fp11 (by decide)
      have tM10_133_6 : M10 133 6 = M8 133 6 := fp11.at (by decide)
      have tM10_133_1 : M10 133 1 = M8 133 1 := fp11.at (by decide)
      have tM10_133_2 : M10 133 2 = M8 133 2 := fp11.at (by decide)
      have tM10_133_4 : M10 133 4 = M8 133 4 := fp11.at (by decide)
      have tM10_133_3 : M10 133 3 = M8 133 3 := fp11.at (by decide)
      have hq9 := wl_fr fp11 (by decide)
      have hL := hq9.2 hL
      have cM10 := hq9.1
      clear hq9
      obtain ⟨qp11_0, qp11_1, qp11_2, qp11_3, qp11_4, qp11_5, qp11_6, qp11_7, qp11_8⟩ := xp11
      have kbM10 : 0 ≤ M10 131 12 ∧ M10 131 12 ≤ 4 := hI.at (show Bd 131 12 = (0, 4) from rfl)
      have hT : Tk M10 := qp11_7
      clear qp11_7
      have lbqp11_8 : M8 131 12 ≤ 4 * M10 131 12 := by omega
      clear qp11_8
      refine z_aload_n F dX12_readThing_59 rfl (q := 1) rfl ?_
      refine z_iconst F dX12_readThing_60 ?_
      refine z_bipush F dX12_readThing_61 (by decide +kernel) ?_
      refine zv_i (rest := []) F (kp_X12_number l M10 ⟨hI, hW⟩ 0 (by omega) (by omega) 99 (by omega) (by omega) ⟨by omega, by omega, by omega, by omega, hT⟩) cs_X12_199 (T := TX12) (N := 44) (ci := 12) rfl gs_131 (by decide) (by decide) rfl rfl rfl (Nat.le_of_ble_eq_true rfl) dX12_readThing_63 (fun v12 M13 rv12 hI p14 => ?_)
      obtain ⟨hI, hW⟩ := hI
      obtain ⟨⟨av12, bv12⟩, fp14, xp14, yp14⟩ := p14
      have hF := hF.call fp14 (by decide)
      have tM13_133_6 : M13 133 6 = M10 133 6 := fp14.at (by decide)
      have tM13_133_1 : M13 133 1 = M10 133 1 := fp14.at (by decide)
      have tM13_133_2 : M13 133 2 = M10 133 2 := fp14.at (by decide)
      have tM13_133_4 : M13 133 4 = M10 133 4 := fp14.at (by decide)
      have tM13_133_3 : M13 133 3 = M10 133 3 := fp14.at (by decide)
      have hq9 := wl_fr fp14 (by decide)
      have hL := hq9.2 hL
      have cM13 := hq9.1
      clear hq9
      have hkv12 : 0 ≤ v12 ∧ v12 ≤ 99 := by omega
      obtain ⟨qp14_0, qp14_1, qp14_2, qp14_3, qp14_4, qp14_5, qp14_6, qp14_7, qp14_8, qp14_9⟩ := xp14
      have kbM13 : 0 ≤ M13 131 12 ∧ M13 131 12 ≤ 4 := hI.at (show Bd 131 12 = (0, 4) from rfl)
      have hT : Tk M13 := qp14_7
      clear qp14_7
      clear qp14_8
      have lbqp14_9 : M10 131 12 ≤ 4 * M13 131 12 := by omega
      have lpqp14_9 : M10 131 9 + 1 ≤ M13 131 9 + M13 131 12 := by omega
      clear qp14_9
      refine z_istore_n F dX12_readThing_66 rfl (by decide) (ls' := [(2, ii v12), (1, ii v7), (0, .ref (ad 131))]) rfl ?_
      have a4 : Im (¬ M 131 10 = 3) (th4 (dR M) (absR M) = absR M13) := fun ht => by
        unfold th4
        rw [← j39_4 ht, show M 133 1 - 1 = (v6 - 1) from by omega, yp9.1, yp11]
        exact yp14.1
      have cut88 : ∀ (y16 : Int) (M15 : Mem), Inv M15 → WFk M15 → Fr [131, 133, 233] M M15 → 0 ≤ y16 → y16 ≤ 9 → (0 ≤ M15 131 9 ∧ M15 131 9 ≤ M15 131 8 ∧ M15 131 8 ≤ M15 131 7 ∧ M15 131 7 ≤ 900) → (M15 131 7 = M 131 7 ∧ M15 131 16 = M 131 16 ∧ M 131 9 ≤ M15 131 9 ∧ M15 133 6 = M 133 6 ∧ M15 133 1 = M 133 1 ∧ M15 133 2 = M 133 2 ∧ M15 133 4 = M 133 4 ∧ M15 133 3 = M 133 3 ∧ M 131 12 ≤ 4 * M15 131 12 ∧ 0 ≤ M15 131 12 ∧ M15 131 12 ≤ 4) → (Wl M15) → (Tk M15) → (Im (¬ M 131 10 = 3) (th5 (dR M) (absR M) = absR M15)) → (M13 131 12 ≤ 4 * M15 131 12) → (dR M15 = dR M) → Z D cy ad p l e (RMh 8) s m args below meth c A 7 0 0 Q 88 [(0, .ref (ad 131)), (1, ii v7), (2, ii v12), (3, ii y16)] [] M15 := by
        intro y16 M15 hI hW hF ay16 by16 j88_0 j88_1 j88_2 j88_3 j88_4 j88_5 j88_6
        have hL := j88_2
        have hT := j88_3
        have cut110 : ∀ (y18 : Int) (M17 : Mem), Inv M17 → WFk M17 → Fr [131, 133, 233] M M17 → 1 ≤ y18 → y18 ≤ 9 → (0 ≤ M17 131 9 ∧ M17 131 9 ≤ M17 131 8 ∧ M17 131 8 ≤ M17 131 7 ∧ M17 131 7 ≤ 900) → (M17 131 7 = M 131 7 ∧ M17 131 16 = M 131 16 ∧ M 131 9 ≤ M17 131 9 ∧ M17 133 6 = M 133 6 ∧ M17 133 1 = M 133 1 ∧ M17 133 2 = M 133 2 ∧ M17 133 4 = M 133 4 ∧ M17 133 3 = M 133 3 ∧ M 131 12 ≤ 4 * M17 131 12 ∧ 0 ≤ M17 131 12 ∧ M17 131 12 ≤ 4) → (Wl M17) → (Tk M17) → (Im (¬ M 131 10 = 3) (th6 (dR M) (absR M) = absR M17)) → (M15 131 12 ≤ 4 * M17 131 12) → (dR M17 = dR M) → Z D cy ad p l e (RMh 8) s m args below meth c A 7 0 0 Q 110 [(0, .ref (ad 131)), (1, ii v7), (2, ii v12), (3, ii y16), (4, ii y18)] [] M17 := by
          intro y18 M17 hI hW hF ay18 by18 j110_0 j110_1 j110_2 j110_3 j110_4 j110_5 j110_6
          have hL := j110_2
          have hT := j110_3
          refine z_aload_n F dX12_readThing_110 rfl (q := 0) rfl ?_
          refine z_ldcS (j := 64) F dX12_readThing_111 rfl rfl rfl ?_
          refine z_eq (st' := [.ref (ad 1064), .ref (ad 131)]) rfl rfl rfl ?_
          refine zv_i (rest := []) F (kp_X12_took_131_1064 l M17 ⟨hI, hW⟩ ⟨by omega, by omega, by omega, by omega, hT⟩) cs_X12_130 (T := TX12) (N := 44) (ci := 12) rfl gs_131 (by decide) (by decide) rfl rfl rfl (Nat.le_of_ble_eq_true rfl) dX12_readThing_113 (fun v19 M20 rv19 hI p21 => ?_)
          obtain ⟨hI, hW⟩ := hI
          obtain ⟨⟨av19, bv19⟩, fp21, xp21, yp21⟩ := p21
          have hF := hF.call fp21 (by decide)
          have tM20_133_6 : M20 133 6 = M17 133 6 := fp21.at (by decide)
          have tM20_133_1 : M20 133 1 = M17 133 1 := fp21.at (by decide)
          have tM20_133_2 : M20 133 2 = M17 133 2 := fp21.at (by decide)
          have tM20_133_4 : M20 133 4 = M17 133 4 := fp21.at (by decide)
          have tM20_133_3 : M20 133 3 = M17 133 3 := fp21.at (by decide)
          have hq9 := wl_fr fp21 (by decide)
          have hL := hq9.2 hL
          have cM20 := hq9.1
          clear hq9
          obtain ⟨qp21_0, qp21_1, qp21_2, qp21_3, qp21_4, qp21_5, qp21_6, qp21_7, qp21_8, qp21_9⟩ := xp21
          have kbM20 : 0 ≤ M20 131 12 ∧ M20 131 12 ≤ 4 := hI.at (show Bd 131 12 = (0, 4) from rfl)
          have hT : Tk M20 := qp21_7
          clear qp21_7
          have lzqp21_9 : M17 131 9 + v19 ≤ M20 131 9 := by omega
          clear qp21_9
          refine z_istore F dX12_readThing_116 (by decide) (ls' := [(5, ii v19), (0, .ref (ad 131)), (1, ii v7), (2, ii v12), (3, ii y16), (4, ii y18)]) rfl ?_
          refine z_aload_n F dX12_readThing_118 rfl (q := 1) rfl ?_
          refine gf_X12_108 F hI gs_131 rfl bd_131_12 dX12_readThing_119 (fun v22 ev22 av22 bv22 => ?_)
          refine z_if_eq (tgt := 126) F dX12_readThing_122 (by decide +kernel) (by omega) (fun c23 => ?_) (fun c23 => ?_)
          · refine z_aload_n F dX12_readThing_126 rfl (q := 1) rfl ?_
            refine rf_X12_13 F gs_131 rfl dX12_readThing_127 ?_
            refine z_iconst F dX12_readThing_130 ?_
            refine z_iald F hI gs_133 (by omega) (by omega) (by decide) (show Bd 133 2 = (0, 8) from rfl) dX12_readThing_131 (fun v24 (ev24 : v24 = M20 133 2) av24 bv24 => ?_)
            have k25 : 0 ≤ v24 ∧ v24 ≤ 7 := by omega
            refine z_istore F dX12_readThing_132 (by decide) (ls' := [(6, ii v24), (5, ii v19), (0, .ref (ad 131)), (1, ii v7), (2, ii v12), (3, ii y16), (4, ii y18)]) rfl ?_
            have hI8 := hI
            refine z_aload_n F dX12_readThing_134 rfl (q := 2) rfl ?_
            refine rf_X12_13 F gs_131 rfl dX12_readThing_135 ?_
            refine z_bipush F dX12_readThing_138 (by decide +kernel) ?_
            refine z_iload F dX12_readThing_140 (q := 0) rfl ?_
            refine z_iadd F dX12_readThing_142 ?_
            refine z_iload_n F dX12_readThing_143 rfl (q := 3) rfl ?_
            refine z_iast F hI gs_133 (by omega) (by omega) (by decide) (bd_133.trans (kn_at (by omega) (by omega))) dX12_readThing_144 (by omega) (by omega) (fun M27 hI sf26 f26 => ?_)
            have tM27_131_7 : M27 131 7 = M20 131 7 := f26 131 7 (fun q => absurd q.1 (by decide))
            have tM27_131_8 : M27 131 8 = M20 131 8 := f26 131 8 (fun q => absurd q.1 (by decide))
            have tM27_131_9 : M27 131 9 = M20 131 9 := f26 131 9 (fun q => absurd q.1 (by decide))
            have tM27_131_10 : M27 131 10 = M20 131 10 := f26 131 10 (fun q => absurd q.1 (by decide))
            have tM27_131_12 : M27 131 12 = M20 131 12 := f26 131 12 (fun q => absurd q.1 (by decide))
            have tM27_131_16 : M27 131 16 = M20 131 16 := f26 131 16 (fun q => absurd q.1 (by decide))
            have tM27_133_6 : M27 133 6 = M20 133 6 := f26 133 6 (fun q => by have := q.2; omega)
            have tM27_133_1 : M27 133 1 = M20 133 1 := f26 133 1 (fun q => by have := q.2; omega)
            have tM27_133_2 : M27 133 2 = M20 133 2 := f26 133 2 (fun q => by have := q.2; omega)
            have tM27_133_4 : M27 133 4 = M20 133 4 := f26 133 4 (fun q => by have := q.2; omega)
            have tM27_133_3 : M27 133 3 = M20 133 3 := f26 133 3 (fun q => by have := q.2; omega)
            have hT := tk_ws f26 (by decide) hT
            have hq9 := wl_wr f26 (by omega)
            have hL := hq9.2 hL
            have cM27 := hq9.1
            clear hq9
            have hF := hF.wrn f26 (by decide) (Or.inr (by decide))
            have hW : WFk M27 := hW.site f26 (by decide)
            refine z_aload_n F dX12_readThing_145 rfl (q := 2) rfl ?_
            refine rf_X12_13 F gs_131 rfl dX12_readThing_146 ?_
            refine z_bipush F dX12_readThing_149 (by decide +kernel) ?_
            refine z_iload F dX12_readThing_151 (q := 0) rfl ?_
            refine z_iadd F dX12_readThing_153 ?_
            refine z_iload_n F dX12_readThing_154 rfl (q := 4) rfl ?_
            refine z_iast F hI gs_133 (by omega) (by omega) (by decide) (bd_133.trans (kn_any (by omega) (by omega))) dX12_readThing_155 (by omega) (by omega) (fun M29 hI sf28 f28 => ?_)
            have tM29_131_7 : M29 131 7 = M27 131 7 := f28 131 7 (fun q => absurd q.1 (by decide))
            have tM29_131_8 : M29 131 8 = M27 131 8 := f28 131 8 (fun q => absurd q.1 (by decide))
            have tM29_131_9 : M29 131 9 = M27 131 9 := f28 131 9 (fun q => absurd q.1 (by decide))
            have tM29_131_10 : M29 131 10 = M27 131 10 := f28 131 10 (fun q => absurd q.1 (by decide))
            have tM29_131_12 : M29 131 12 = M27 131 12 := f28 131 12 (fun q => absurd q.1 (by decide))
            have tM29_131_16 : M29 131 16 = M27 131 16 := f28 131 16 (fun q => absurd q.1 (by decide))
            have tM29_133_6 : M29 133 6 = M27 133 6 := f28 133 6 (fun q => by have := q.2; omega)
            have tM29_133_1 : M29 133 1 = M27 133 1 := f28 133 1 (fun q => by have := q.2; omega)
            have tM29_133_2 : M29 133 2 = M27 133 2 := f28 133 2 (fun q => by have := q.2; omega)
            have tM29_133_4 : M29 133 4 = M27 133 4 := f28 133 4 (fun q => by have := q.2; omega)
            have tM29_133_3 : M29 133 3 = M27 133 3 := f28 133 3 (fun q => by have := q.2; omega)
            have hT := tk_ws f28 (by decide) hT
            have hq9 := wl_wr f28 (by omega)
            have hL := hq9.2 hL
            have cM29 := hq9.1
            clear hq9
            have hF := hF.wrn f28 (by decide) (Or.inr (by decide))
            have hW : WFk M29 := hW.site f28 (by decide)
            refine z_aload_n F dX12_readThing_156 rfl (q := 2) rfl ?_
            refine rf_X12_13 F gs_131 rfl dX12_readThing_157 ?_
            refine z_bipush F dX12_readThing_160 (by decide +kernel) ?_
            refine z_iload F dX12_readThing_162 (q := 0) rfl ?_
            refine z_iadd F dX12_readThing_164 ?_
            refine z_iload_n F dX12_readThing_165 rfl (q := 5) rfl ?_
            refine z_iast F hI gs_133 (by omega) (by omega) (by decide) (bd_133.trans (kn_any (by omega) (by omega))) dX12_readThing_166 (by omega) (by omega) (fun M31 hI sf30 f30 => ?_)
            have tM31_131_7 : M31 131 7 = M29 131 7 := f30 131 7 (fun q => absurd q.1 (by decide))
            have tM31_131_8 : M31 131 8 = M29 131 8 := f30 131 8 (fun q => absurd q.1 (by decide))
            have tM31_131_9 : M31 131 9 = M29 131 9 := f30 131 9 (fun q => absurd q.1 (by decide))
            have tM31_131_10 : M31 131 10 = M29 131 10 := f30 131 10 (fun q => absurd q.1 (by decide))
            have tM31_131_12 : M31 131 12 = M29 131 12 := f30 131 12 (fun q => absurd q.1 (by decide))
            have tM31_131_16 : M31 131 16 = M29 131 16 := f30 131 16 (fun q => absurd q.1 (by decide))
            have tM31_133_6 : M31 133 6 = M29 133 6 := f30 133 6 (fun q => by have := q.2; omega)
            have tM31_133_1 : M31 133 1 = M29 133 1 := f30 133 1 (fun q => by have := q.2; omega)
            have tM31_133_2 : M31 133 2 = M29 133 2 := f30 133 2 (fun q => by have := q.2; omega)
            have tM31_133_4 : M31 133 4 = M29 133 4 := f30 133 4 (fun q => by have := q.2; omega)
            have tM31_133_3 : M31 133 3 = M29 133 3 := f30 133 3 (fun q => by have := q.2; omega)
            have hT := tk_ws f30 (by decide) hT
            have hq9 := wl_wr f30 (by omega)
            have hL := hq9.2 hL
            have cM31 := hq9.1
            clear hq9
            have hF := hF.wrn f30 (by decide) (Or.inr (by decide))
            have hW : WFk M31 := hW.site f30 (by decide)
            refine z_aload_n F dX12_readThing_167 rfl (q := 2) rfl ?_
            refine rf_X12_13 F gs_131 rfl dX12_readThing_168 ?_
            refine z_bipush F dX12_readThing_171 (by decide +kernel) ?_
            refine z_iload F dX12_readThing_173 (q := 0) rfl ?_
            refine z_iadd F dX12_readThing_175 ?_
            refine z_iload F dX12_readThing_176 (q := 6) rfl ?_
            refine z_iast F hI gs_133 (by omega) (by omega) (by decide) (bd_133.trans (kn_any (by omega) (by omega))) dX12_readThing_178 (by omega) (by omega) (fun M33 hI sf32 f32 => ?_)
            have tM33_131_7 : M33 131 7 = M31 131 7 := f32 131 7 (fun q => absurd q.1 (by decide))
            have tM33_131_8 : M33 131 8 = M31 131 8 := f32 131 8 (fun q => absurd q.1 (by decide))
            have tM33_131_9 : M33 131 9 = M31 131 9 := f32 131 9 (fun q => absurd q.1 (by decide))
            have tM33_131_10 : M33 131 10 = M31 131 10 := f32 131 10 (fun q => absurd q.1 (by decide))
            have tM33_131_12 : M33 131 12 = M31 131 12 := f32 131 12 (fun q => absurd q.1 (by decide))
            have tM33_131_16 : M33 131 16 = M31 131 16 := f32 131 16 (fun q => absurd q.1 (by decide))
            have tM33_133_6 : M33 133 6 = M31 133 6 := f32 133 6 (fun q => by have := q.2; omega)
            have tM33_133_1 : M33 133 1 = M31 133 1 := f32 133 1 (fun q => by have := q.2; omega)
            have tM33_133_2 : M33 133 2 = M31 133 2 := f32 133 2 (fun q => by have := q.2; omega)
            have tM33_133_4 : M33 133 4 = M31 133 4 := f32 133 4 (fun q => by have := q.2; omega)
            have tM33_133_3 : M33 133 3 = M31 133 3 := f32 133 3 (fun q => by have := q.2; omega)
            have hT := tk_ws f32 (by decide) hT
            have hq9 := wl_wr f32 (by omega)
            have hL := hq9.2 hL
            have cM33 := hq9.1
            clear hq9
            have hF := hF.wrn f32 (by decide) (Or.inr (by decide))
            have hW : WFk M33 := hW.site f32 (by decide)
            refine z_aload_n F dX12_readThing_179 rfl (q := 2) rfl ?_
            refine rf_X12_13 F gs_131 rfl dX12_readThing_180 ?_
            refine z_bipush F dX12_readThing_183 (by decide +kernel) ?_
            refine z_iload F dX12_readThing_185 (q := 0) rfl ?_
            refine z_iadd F dX12_readThing_187 ?_
            refine z_iload F dX12_readThing_188 (q := 1) rfl ?_
            refine z_if_eq (tgt := 197) F dX12_readThing_190 (by decide +kernel) (by omega) (fun c34 => ?_) (fun c34 => ?_)
            · refine z_iconst F dX12_readThing_197 ?_
              refine z_iast F hI gs_133 (by omega) (by omega) (by decide) (bd_133.trans (kn_any (by omega) (by omega))) dX12_readThing_198 (by omega) (by omega) (fun M36 hI sf35 f35 => ?_)
              have tM36_131_7 : M36 131 7 = M33 131 7 := f35 131 7 (fun q => absurd q.1 (by decide))
              have tM36_131_8 : M36 131 8 = M33 131 8 := f35 131 8 (fun q => absurd q.1 (by decide))
              have tM36_131_9 : M36 131 9 = M33 131 9 := f35 131 9 (fun q => absurd q.1 (by decide))
              have tM36_131_10 : M36 131 10 = M33 131 10 := f35 131 10 (fun q => absurd q.1 (by decide))
              have tM36_131_12 : M36 131 12 = M33 131 12 := f35 131 12 (fun q => absurd q.1 (by decide))
              have tM36_131_16 : M36 131 16 = M33 131 16 := f35 131 16 (fun q => absurd q.1 (by decide))
              have tM36_133_6 : M36 133 6 = M33 133 6 := f35 133 6 (fun q => by have := q.2; omega)
              have tM36_133_1 : M36 133 1 = M33 133 1 := f35 133 1 (fun q => by have := q.2; omega)
              have tM36_133_2 : M36 133 2 = M33 133 2 := f35 133 2 (fun q => by have := q.2; omega)
              have tM36_133_4 : M36 133 4 = M33 133 4 := f35 133 4 (fun q => by have := q.2; omega)
              have tM36_133_3 : M36 133 3 = M33 133 3 := f35 133 3 (fun q => by have := q.2; omega)
              have hT := tk_ws f35 (by decide) hT
              have hq9 := wl_wr f35 (by omega)
              have hL := hq9.2 hL
              have cM36 := hq9.1
              clear hq9
              have hF := hF.wrn f35 (by decide) (Or.inr (by decide))
              have hW : WFk M36 := hW.site f35 (by decide)
              refine z_aload_n F dX12_readThing_199 rfl (q := 2) rfl ?_
              refine rf_X12_13 F gs_131 rfl dX12_readThing_200 ?_
              refine z_iconst F dX12_readThing_203 ?_
              refine z_dup2 F dX12_readThing_204 rfl rfl ?_
              refine z_iald F hI gs_133 (by omega) (by omega) (by decide) (show Bd 133 2 = (0, 8) from rfl) dX12_readThing_205 (fun v37 (ev37 : v37 = M36 133 2) av37 bv37 => ?_)
              have q38 : v24 = M27 133 2 := ev24.trans (f26 133 2 (fun q => by omega)).symm
              have q39 : v24 = M29 133 2 := q38.trans (f28 133 2 (fun q => by omega)).symm
              have q40 : v24 = M31 133 2 := q39.trans (f30 133 2 (fun q => by omega)).symm
              have q41 : v24 = M33 133 2 := q40.trans (f32 133 2 (fun q => by omega)).symm
              have q42 : v24 = M36 133 2 := q41.trans (f35 133 2 (fun q => by omega)).symm
              have zv37 : v24 = v37 := q42.trans ev37.symm
              subst zv37
              refine z_iconst F dX12_readThing_206 ?_
              refine z_iadd F dX12_readThing_207 ?_
              refine z_nm (fun v44 ev44 => ?_)
              refine z_iast F hI gs_133 (by omega) (by omega) (by decide) (show Bd 133 2 = (0, 8) from rfl) dX12_readThing_208 (by omega) (by omega) (fun M45 hI sf43 f43 => ?_)
              have tM45_131_7 : M45 131 7 = M36 131 7 := f43 131 7 (fun q => absurd q.1 (by decide))
              have tM45_131_8 : M45 131 8 = M36 131 8 := f43 131 8 (fun q => absurd q.1 (by decide))
              have tM45_131_9 : M45 131 9 = M36 131 9 := f43 131 9 (fun q => absurd q.1 (by decide))
              have tM45_131_10 : M45 131 10 = M36 131 10 := f43 131 10 (fun q => absurd q.1 (by decide))
              have tM45_131_12 : M45 131 12 = M36 131 12 := f43 131 12 (fun q => absurd q.1 (by decide))
              have tM45_131_16 : M45 131 16 = M36 131 16 := f43 131 16 (fun q => absurd q.1 (by decide))
              have tM45_133_6 : M45 133 6 = M36 133 6 := f43 133 6 (fun q => absurd q.2 (by decide))
              have tM45_133_1 : M45 133 1 = M36 133 1 := f43 133 1 (fun q => absurd q.2 (by decide))
              have tM45_133_4 : M45 133 4 = M36 133 4 := f43 133 4 (fun q => absurd q.2 (by decide))
              have tM45_133_3 : M45 133 3 = M36 133 3 := f43 133 3 (fun q => absurd q.2 (by decide))
              have hT := tk_ws f43 (by decide) hT
              have hq9 := wl_wr f43 (by omega)
              have hL := hq9.2 hL
              have cM45 := hq9.1
              clear hq9
              have hF := hF.wrn f43 (by decide) (Or.inr (by decide))
              have hW : WFk M45 := hW.site f43 (by decide)
              have sf43 : M45 133 2 = v44 := sf43
              have yy46 : Im (¬ M 131 10 = 3) (tR M45 = thingF (absR M, dR M)) := fun ht => by
                have p9 := yp9.2 (show M8 131 12 = 0 by omega)
                have b9 := j39_5 ht (by omega)
                have dd : dR M45 = addN (dR M20) v7 := dR_thing (n := v24) hI8 (by omega) (by omega) (((f43 133 (8 + v24).toNat (fun q => by have := q.2; omega)).trans ((f35 133 (8 + v24).toNat (fun q => by have := q.2; omega)).trans ((f32 133 (8 + v24).toNat (fun q => by have := q.2; omega)).trans ((f30 133 (8 + v24).toNat (fun q => by have := q.2; omega)).trans (f28 133 (8 + v24).toNat (fun q => by have := q.2; omega)))))).trans sf26) (show M45 133 2 = v24 + 1 from by omega) (fun b r1 r2 r3 => ((f43 133 b (fun q => by have := q.2; omega)).trans ((f35 133 b (fun q => by have := q.2; omega)).trans ((f32 133 b (fun q => by have := q.2; omega)).trans ((f30 133 b (fun q => by have := q.2; omega)).trans ((f28 133 b (fun q => by have := q.2; omega)).trans (f26 133 b (fun q => by have := q.2; omega))))))))
                exact thing_7 ((show th7 (dR M) (absR M) = absR M20 from by unfold th7; rw [j110_4 ht]; exact yp21.2).trans (absR_eq (fun j => ((f43 131 j (fun q => absurd q.1 (by decide))).trans ((f35 131 j (fun q => absurd q.1 (by decide))).trans ((f32 131 j (fun q => absurd q.1 (by decide))).trans ((f30 131 j (fun q => absurd q.1 (by decide))).trans ((f28 131 j (fun q => absurd q.1 (by decide))).trans (f26 131 j (fun q => absurd q.1 (by decide))))))))) (fun j => ((f43 136 j (fun q => absurd q.1 (by decide))).trans ((f35 136 j (fun q => absurd q.1 (by decide))).trans ((f32 136 j (fun q => absurd q.1 (by decide))).trans ((f30 136 j (fun q => absurd q.1 (by decide))).trans ((f28 136 j (fun q => absurd q.1 (by decide))).trans (f26 136 j (fun q => absurd q.1 (by decide))))))))) : absR M45 = absR M20).symm) (fun q => by rw [dd, ((show dR M20 = dR M17 from dR_f (fun b => fp21.at (by decide))).trans j110_6), ← b9, ← p9])
              exact hret _ 209 _ ⟨hI, hW⟩ ⟨hF, ⟨hL, by omega, by omega, by omega, by omega, by omega, by omega, by omega, hT, by omega, by omega, by omega⟩, (fun h0 ht => yy46 ht)⟩ dX12_readThing_209
            · refine z_iconst F dX12_readThing_193 ?_
              refine z_goto (tgt := 198) F dX12_readThing_194 (by decide +kernel) ?_
              refine z_iast F hI gs_133 (by omega) (by omega) (by decide) (bd_133.trans (kn_any (by omega) (by omega))) dX12_readThing_198 (by omega) (by omega) (fun M48 hI sf47 f47 => ?_)
              have tM48_131_7 : M48 131 7 = M33 131 7 := f47 131 7 (fun q => absurd q.1 (by decide))
              have tM48_131_8 : M48 131 8 = M33 131 8 := f47 131 8 (fun q => absurd q.1 (by decide))
              have tM48_131_9 : M48 131 9 = M33 131 9 := f47 131 9 (fun q => absurd q.1 (by decide))
              have tM48_131_10 : M48 131 10 = M33 131 10 := f47 131 10 (fun q => absurd q.1 (by decide))
              have tM48_131_12 : M48 131 12 = M33 131 12 := f47 131 12 (fun q => absurd q.1 (by decide))
              have tM48_131_16 : M48 131 16 = M33 131 16 := f47 131 16 (fun q => absurd q.1 (by decide))
              have tM48_133_6 : M48 133 6 = M33 133 6 := f47 133 6 (fun q => by have := q.2; omega)
              have tM48_133_1 : M48 133 1 = M33 133 1 := f47 133 1 (fun q => by have := q.2; omega)
              have tM48_133_2 : M48 133 2 = M33 133 2 := f47 133 2 (fun q => by have := q.2; omega)
              have tM48_133_4 : M48 133 4 = M33 133 4 := f47 133 4 (fun q => by have := q.2; omega)
              have tM48_133_3 : M48 133 3 = M33 133 3 := f47 133 3 (fun q => by have := q.2; omega)
              have hT := tk_ws f47 (by decide) hT
              have hq9 := wl_wr f47 (by omega)
              have hL := hq9.2 hL
              have cM48 := hq9.1
              clear hq9
              have hF := hF.wrn f47 (by decide) (Or.inr (by decide))
              have hW : WFk M48 := hW.site f47 (by decide)
              refine z_aload_n F dX12_readThing_199 rfl (q := 2) rfl ?_
              refine rf_X12_13 F gs_131 rfl dX12_readThing_200 ?_
              refine z_iconst F dX12_readThing_203 ?_
              refine z_dup2 F dX12_readThing_204 rfl rfl ?_
              refine z_iald F hI gs_133 (by omega) (by omega) (by decide) (show Bd 133 2 = (0, 8) from rfl) dX12_readThing_205 (fun v49 (ev49 : v49 = M48 133 2) av49 bv49 => ?_)
              have q50 : v24 = M27 133 2 := ev24.trans (f26 133 2 (fun q => by omega)).symm
              have q51 : v24 = M29 133 2 := q50.trans (f28 133 2 (fun q => by omega)).symm
              have q52 : v24 = M31 133 2 := q51.trans (f30 133 2 (fun q => by omega)).symm
              have q53 : v24 = M33 133 2 := q52.trans (f32 133 2 (fun q => by omega)).symm
              have q54 : v24 = M48 133 2 := q53.trans (f47 133 2 (fun q => by omega)).symm
              have zv49 : v24 = v49 := q54.trans ev49.symm
              subst zv49
              refine z_iconst F dX12_readThing_206 ?_
              refine z_iadd F dX12_readThing_207 ?_
              refine z_nm (fun v56 ev56 => ?_)
              refine z_iast F hI gs_133 (by omega) (by omega) (by decide) (show Bd 133 2 = (0, 8) from rfl) dX12_readThing_208 (by omega) (by omega) (fun M57 hI sf55 f55 => ?_)
              have tM57_131_7 : M57 131 7 = M48 131 7 := f55 131 7 (fun q => absurd q.1 (by decide))
              have tM57_131_8 : M57 131 8 = M48 131 8 := f55 131 8 (fun q => absurd q.1 (by decide))
              have tM57_131_9 : M57 131 9 = M48 131 9 := f55 131 9 (fun q => absurd q.1 (by decide))
              have tM57_131_10 : M57 131 10 = M48 131 10 := f55 131 10 (fun q => absurd q.1 (by decide))
              have tM57_131_12 : M57 131 12 = M48 131 12 := f55 131 12 (fun q => absurd q.1 (by decide))
              have tM57_131_16 : M57 131 16 = M48 131 16 := f55 131 16 (fun q => absurd q.1 (by decide))
              have tM57_133_6 : M57 133 6 = M48 133 6 := f55 133 6 (fun q => absurd q.2 (by decide))
              have tM57_133_1 : M57 133 1 = M48 133 1 := f55 133 1 (fun q => absurd q.2 (by decide))
              have tM57_133_4 : M57 133 4 = M48 133 4 := f55 133 4 (fun q => absurd q.2 (by decide))
              have tM57_133_3 : M57 133 3 = M48 133 3 := f55 133 3 (fun q => absurd q.2 (by decide))
              have hT := tk_ws f55 (by decide) hT
              have hq9 := wl_wr f55 (by omega)
              have hL := hq9.2 hL
              have cM57 := hq9.1
              clear hq9
              have hF := hF.wrn f55 (by decide) (Or.inr (by decide))
              have hW : WFk M57 := hW.site f55 (by decide)
              have sf55 : M57 133 2 = v56 := sf55
              have yy58 : Im (¬ M 131 10 = 3) (tR M57 = thingF (absR M, dR M)) := fun ht => by
                have p9 := yp9.2 (show M8 131 12 = 0 by omega)
                have b9 := j39_5 ht (by omega)
                have dd : dR M57 = addN (dR M20) v7 := dR_thing (n := v24) hI8 (by omega) (by omega) (((f55 133 (8 + v24).toNat (fun q => by have := q.2; omega)).trans ((f47 133 (8 + v24).toNat (fun q => by have := q.2; omega)).trans ((f32 133 (8 + v24).toNat (fun q => by have := q.2; omega)).trans ((f30 133 (8 + v24).toNat (fun q => by have := q.2; omega)).trans (f28 133 (8 + v24).toNat (fun q => by have := q.2; omega)))))).trans sf26) (show M57 133 2 = v24 + 1 from by omega) (fun b r1 r2 r3 => ((f55 133 b (fun q => by have := q.2; omega)).trans ((f47 133 b (fun q => by have := q.2; omega)).trans ((f32 133 b (fun q => by have := q.2; omega)).trans ((f30 133 b (fun q => by have := q.2; omega)).trans ((f28 133 b (fun q => by have := q.2; omega)).trans (f26 133 b (fun q => by have := q.2; omega))))))))
                exact thing_7 ((show th7 (dR M) (absR M) = absR M20 from by unfold th7; rw [j110_4 ht]; exact yp21.2).trans (absR_eq (fun j => ((f55 131 j (fun q => absurd q.1 (by decide))).trans ((f47 131 j (fun q => absurd q.1 (by decide))).trans ((f32 131 j (fun q => absurd q.1 (by decide))).trans ((f30 131 j (fun q => absurd q.1 (by decide))).trans ((f28 131 j (fun q => absurd q.1 (by decide))).trans (f26 131 j (fun q => absurd q.1 (by decide))))))))) (fun j => ((f55 136 j (fun q => absurd q.1 (by decide))).trans ((f47 136 j (fun q => absurd q.1 (by decide))).trans ((f32 136 j (fun q => absurd q.1 (by decide))).trans ((f30 136 j (fun q => absurd q.1 (by decide))).trans ((f28 136 j (fun q => absurd q.1 (by decide))).trans (f26 136 j (fun q => absurd q.1 (by decide))))))))) : absR M57 = absR M20).symm) (fun q => by rw [dd, ((show dR M20 = dR M17 from dR_f (fun b => fp21.at (by decide))).trans j110_6), ← b9, ← p9])
              exact hret _ 209 _ ⟨hI, hW⟩ ⟨hF, ⟨hL, by omega, by omega, by omega, by omega, by omega, by omega, by omega, hT, by omega, by omega, by omega⟩, (fun h0 ht => yy58 ht)⟩ dX12_readThing_209
          · exact hret _ 125 _ ⟨hI, hW⟩ ⟨hF, ⟨hL, by omega, by omega, by omega, by omega, by omega, by omega, by omega, hT, by omega, by omega, by omega⟩, (fun h0 ht => thing_7 (show th7 (dR M) (absR M) = absR M20 from by unfold th7; rw [j110_4 ht]; exact yp21.2) (fun q => by exfalso; have g9 := (vR_fl M20).symm.trans q; omega))⟩ dX12_readThing_125
        refine z_aload_n F dX12_readThing_88 rfl (q := 0) rfl ?_
        refine z_ldcS (j := 63) F dX12_readThing_89 rfl rfl rfl ?_
        refine z_eq (st' := [.ref (ad 1063), .ref (ad 131)]) rfl rfl rfl ?_
        refine zv_i (rest := []) F (kp_X12_took_131_1063 l M15 ⟨hI, hW⟩ ⟨by omega, by omega, by omega, by omega, hT⟩) cs_X12_130 (T := TX12) (N := 44) (ci := 12) rfl gs_131 (by decide) (by decide) rfl rfl rfl (Nat.le_of_ble_eq_true rfl) dX12_readThing_91 (fun v60 M61 rv60 hI p62 => ?_)
        obtain ⟨hI, hW⟩ := hI
        obtain ⟨⟨av60, bv60⟩, fp62, xp62, yp62⟩ := p62
        have hF := hF.call fp62 (by decide)
        have tM61_133_6 : M61 133 6 = M15 133 6 := fp62.at (by decide)
        have tM61_133_1 : M61 133 1 = M15 133 1 := fp62.at (by decide)
        have tM61_133_2 : M61 133 2 = M15 133 2 := fp62.at (by decide)
        have tM61_133_4 : M61 133 4 = M15 133 4 := fp62.at (by decide)
        have tM61_133_3 : M61 133 3 = M15 133 3 := fp62.at (by decide)
        have hq9 := wl_fr fp62 (by decide)
        have hL := hq9.2 hL
        have cM61 := hq9.1
        clear hq9
        obtain ⟨qp62_0, qp62_1, qp62_2, qp62_3, qp62_4, qp62_5, qp62_6, qp62_7, qp62_8, qp62_9⟩ := xp62
        have kbM61 : 0 ≤ M61 131 12 ∧ M61 131 12 ≤ 4 := hI.at (show Bd 131 12 = (0, 4) from rfl)
        have hT : Tk M61 := qp62_7
        clear qp62_7
        have lzqp62_9 : M15 131 9 + v60 ≤ M61 131 9 := by omega
        clear qp62_9
        refine z_if_eq (tgt := 107) F dX12_readThing_94 (by decide +kernel) (by omega) (fun c63 => ?_) (fun c63 => ?_)
        · refine z_iconst F dX12_readThing_107 ?_
          refine z_istore F dX12_readThing_108 (by decide) (ls' := [(4, ii 1), (0, .ref (ad 131)), (1, ii v7), (2, ii v12), (3, ii y16)]) rfl ?_
          refine z_loc [1, 2, 3, 4, 0] (ls' := [(0, .ref (ad 131)), (1, ii v7), (2, ii v12), (3, ii y16), (4, ii 1)]) rfl ?_
          exact cut110 1 M61 hI hW hF (by omega) (by omega) (by omega) (by omega) hL hT (fun ht => by unfold th6; rw [j88_4 ht, opt_n (wz_f yp62.1 (by omega))]; exact (took_e (wz_f yp62.1 (by omega)) yp62.2).symm) (by omega) ((show dR M61 = dR M15 from dR_f (fun b => fp62.at (by decide))).trans j88_6)
        · refine z_aload_n F dX12_readThing_97 rfl (q := 0) rfl ?_
          refine z_iconst F dX12_readThing_98 ?_
          refine z_bipush F dX12_readThing_99 (by decide +kernel) ?_
          refine zv_i (rest := []) F (kp_X12_number l M61 ⟨hI, hW⟩ 1 (by omega) (by omega) 9 (by omega) (by omega) ⟨by omega, by omega, by omega, by omega, hT⟩) cs_X12_199 (T := TX12) (N := 44) (ci := 12) rfl gs_131 (by decide) (by decide) rfl rfl rfl (Nat.le_of_ble_eq_true rfl) dX12_readThing_101 (fun v64 M65 rv64 hI p66 => ?_)
          obtain ⟨hI, hW⟩ := hI
          obtain ⟨⟨av64, bv64⟩, fp66, xp66, yp66⟩ := p66
          have hF := hF.call fp66 (by decide)
          have tM65_133_6 : M65 133 6 = M61 133 6 := fp66.at (by decide)
          have tM65_133_1 : M65 133 1 = M61 133 1 := fp66.at (by decide)
          have tM65_133_2 : M65 133 2 = M61 133 2 := fp66.at (by decide)
          have tM65_133_4 : M65 133 4 = M61 133 4 := fp66.at (by decide)
          have tM65_133_3 : M65 133 3 = M61 133 3 := fp66.at (by decide)
          have hq9 := wl_fr fp66 (by decide)
          have hL := hq9.2 hL
          have cM65 := hq9.1
          clear hq9
          have hkv64 : 1 ≤ v64 ∧ v64 ≤ 9 := by omega
          obtain ⟨qp66_0, qp66_1, qp66_2, qp66_3, qp66_4, qp66_5, qp66_6, qp66_7, qp66_8, qp66_9⟩ := xp66
          have kbM65 : 0 ≤ M65 131 12 ∧ M65 131 12 ≤ 4 := hI.at (show Bd 131 12 = (0, 4) from rfl)
          have hT : Tk M65 := qp66_7
          clear qp66_7
          clear qp66_8
          have lbqp66_9 : M61 131 12 ≤ 4 * M65 131 12 := by omega
          have lpqp66_9 : M61 131 9 + 1 ≤ M65 131 9 + M65 131 12 := by omega
          clear qp66_9
          refine z_goto (tgt := 108) F dX12_readThing_104 (by decide +kernel) ?_
          refine z_istore F dX12_readThing_108 (by decide) (ls' := [(4, ii v64), (0, .ref (ad 131)), (1, ii v7), (2, ii v12), (3, ii y16)]) rfl ?_
          refine z_loc [1, 2, 3, 4, 0] (ls' := [(0, .ref (ad 131)), (1, ii v7), (2, ii v12), (3, ii y16), (4, ii v64)]) rfl ?_
          exact cut110 v64 M65 hI hW hF (by omega) (by omega) (by omega) (by omega) hL hT (fun ht => by unfold th6; rw [j88_4 ht]; exact opt_t (wz_t yp62.1 (by omega)) (took_a (wz_t yp62.1 (by omega)) yp62.2) yp66.1) (by omega) (((show dR M65 = dR M61 from dR_f (fun b => fp66.at (by decide))).trans (show dR M61 = dR M15 from dR_f (fun b => fp62.at (by decide)))).trans j88_6)
      refine z_aload_n F dX12_readThing_67 rfl (q := 2) rfl ?_
      refine z_ldcS (j := 62) F dX12_readThing_68 rfl rfl rfl ?_
      refine z_eq (st' := [.ref (ad 1062), .ref (ad 131)]) rfl rfl rfl ?_
      refine zv_i (rest := []) F (kp_X12_took_131_1062 l M13 ⟨hI, hW⟩ ⟨by omega, by omega, by omega, by omega, hT⟩) cs_X12_130 (T := TX12) (N := 44) (ci := 12) rfl gs_131 (by decide) (by decide) rfl rfl rfl (Nat.le_of_ble_eq_true rfl) dX12_readThing_70 (fun v67 M68 rv67 hI p69 => ?_)
      obtain ⟨hI, hW⟩ := hI
      obtain ⟨⟨av67, bv67⟩, fp69, xp69, yp69⟩ := p69
      have hF := hF.call fp69 (by decide)
      have tM68_133_6 : M68 133 6 = M13 133 6 := fp69.at (by decide)
      have tM68_133_1 : M68 133 1 = M13 133 1 := fp69.at (by decide)
      have tM68_133_2 : M68 133 2 = M13 133 2 := fp69.at (by decide)
      have tM68_133_4 : M68 133 4 = M13 133 4 := fp69.at (by decide)
      have tM68_133_3 : M68 133 3 = M13 133 3 := fp69.at (by decide)
      have hq9 := wl_fr fp69 (by decide)
      have hL := hq9.2 hL
      have cM68 := hq9.1
      clear hq9
      obtain ⟨qp69_0, qp69_1, qp69_2, qp69_3, qp69_4, qp69_5, qp69_6, qp69_7, qp69_8, qp69_9⟩ := xp69
      have kbM68 : 0 ≤ M68 131 12 ∧ M68 131 12 ≤ 4 := hI.at (show Bd 131 12 = (0, 4) from rfl)
      have hT : Tk M68 := qp69_7
      clear qp69_7
      have lzqp69_9 : M13 131 9 + v67 ≤ M68 131 9 := by omega
      clear qp69_9
      refine z_if_eq (tgt := 86) F dX12_readThing_73 (by decide +kernel) (by omega) (fun c70 => ?_) (fun c70 => ?_)
      · refine z_iconst F dX12_readThing_86 ?_
        refine z_istore_n F dX12_readThing_87 rfl (by decide) (ls' := [(3, ii 0), (2, ii v12), (1, ii v7), (0, .ref (ad 131))]) rfl ?_
        refine z_loc [3, 2, 1, 0] (ls' := [(0, .ref (ad 131)), (1, ii v7), (2, ii v12), (3, ii 0)]) rfl ?_
        exact cut88 0 M68 hI hW hF (by omega) (by omega) (by omega) (by omega) hL hT (fun ht => by unfold th5; rw [a4 ht, opt_n (wz_f yp69.1 (by omega))]; exact (took_e (wz_f yp69.1 (by omega)) yp69.2).symm) (by omega) (((show dR M68 = dR M13 from dR_f (fun b => fp69.at (by decide))).trans ((show dR M13 = dR M10 from dR_f (fun b => fp14.at (by decide))).trans ((show dR M10 = dR M8 from dR_f (fun b => fp11.at (by decide))).trans (show dR M8 = dR M5 from dR_f (fun b => fp9.at (by decide)))))).trans j39_7)
      · refine z_aload_n F dX12_readThing_76 rfl (q := 2) rfl ?_
        refine z_iconst F dX12_readThing_77 ?_
        refine z_bipush F dX12_readThing_78 (by decide +kernel) ?_
        refine zv_i (rest := []) F (kp_X12_number l M68 ⟨hI, hW⟩ 0 (by omega) (by omega) 9 (by omega) (by omega) ⟨by omega, by omega, by omega, by omega, hT⟩) cs_X12_199 (T := TX12) (N := 44) (ci := 12) rfl gs_131 (by decide) (by decide) rfl rfl rfl (Nat.le_of_ble_eq_true rfl) dX12_readThing_80 (fun v71 M72 rv71 hI p73 => ?_)
        obtain ⟨hI, hW⟩ := hI
        obtain ⟨⟨av71, bv71⟩, fp73, xp73, yp73⟩ := p73
        have hF := hF.call fp73 (by decide)
        have tM72_133_6 : M72 133 6 = M68 133 6 := fp73.at (by decide)
        have tM72_133_1 : M72 133 1 = M68 133 1 := fp73.at (by decide)
        have tM72_133_2 : M72 133 2 = M68 133 2 := fp73.at (by decide)
        have tM72_133_4 : M72 133 4 = M68 133 4 := fp73.at (by decide)
        have tM72_133_3 : M72 133 3 = M68 133 3 := fp73.at (by decide)
        have hq9 := wl_fr fp73 (by decide)
        have hL := hq9.2 hL
        have cM72 := hq9.1
        clear hq9
        have hkv71 : 0 ≤ v71 ∧ v71 ≤ 9 := by omega
        obtain ⟨qp73_0, qp73_1, qp73_2, qp73_3, qp73_4, qp73_5, qp73_6, qp73_7, qp73_8, qp73_9⟩ := xp73
        have kbM72 : 0 ≤ M72 131 12 ∧ M72 131 12 ≤ 4 := hI.at (show Bd 131 12 = (0, 4) from rfl)
        have hT : Tk M72 := qp73_7
        clear qp73_7
        clear qp73_8
        have lbqp73_9 : M68 131 12 ≤ 4 * M72 131 12 := by omega
        have lpqp73_9 : M68 131 9 + 1 ≤ M72 131 9 + M72 131 12 := by omega
        clear qp73_9
        refine z_goto (tgt := 87) F dX12_readThing_83 (by decide +kernel) ?_
        refine z_istore_n F dX12_readThing_87 rfl (by decide) (ls' := [(3, ii v71), (2, ii v12), (1, ii v7), (0, .ref (ad 131))]) rfl ?_
        refine z_loc [3, 2, 1, 0] (ls' := [(0, .ref (ad 131)), (1, ii v7), (2, ii v12), (3, ii v71)]) rfl ?_
        exact cut88 v71 M72 hI hW hF (by omega) (by omega) (by omega) (by omega) hL hT (fun ht => by unfold th5; rw [a4 ht]; exact opt_t (wz_t yp69.1 (by omega)) (took_a (wz_t yp69.1 (by omega)) yp69.2) yp73.1) (by omega) (((show dR M72 = dR M68 from dR_f (fun b => fp73.at (by decide))).trans ((show dR M68 = dR M13 from dR_f (fun b => fp69.at (by decide))).trans ((show dR M13 = dR M10 from dR_f (fun b => fp14.at (by decide))).trans ((show dR M10 = dR M8 from dR_f (fun b => fp11.at (by decide))).trans (show dR M8 = dR M5 from dR_f (fun b => fp9.at (by decide))))))).trans j39_7)
    refine z_aload_n F dX12_readThing_11 rfl (q := 0) rfl ?_
    refine gf_X12_88 F hI gs_131 rfl bd_131_10 dX12_readThing_12 (fun v74 ev74 av74 bv74 => ?_)
    refine z_iconst F dX12_readThing_15 ?_
    refine z_icmp_ne (tgt := 39) F dX12_readThing_16 (by decide +kernel) (by omega) (by omega) (fun c75 => ?_) (fun c75 => ?_)
    · refine z_loc [0] (ls' := [(0, .ref (ad 131))]) rfl ?_
      have c3976 : Im (¬ M 131 10 = 3) (numB 0 (M 133 1 - 1) noB (absR M2) = th2 (dR M) (absR M)) := fun ht => by
        unfold th2
        rw [a1 ht]
        exact numB_v (fun g0 g1 q1 q2 => by exfalso; have f9 := (vR_fl M2).symm.trans g0; rw [(vR_tk f9).1] at g1; unfold tkR at g1; omega)
      exact cut39 M2 hI hW hF (by omega) (by omega) hL hT c3976 (fun ht q => (a1 ht).symm) (by omega) (show dR M2 = dR M from dR_f (fun b => fp3.at (by decide)))
    · refine z_aload_n F dX12_readThing_19 rfl (q := 0) rfl ?_
      refine rf_X12_13 F gs_131 rfl dX12_readThing_20 ?_
      refine z_aload_n F dX12_readThing_23 rfl (q := 0) rfl ?_
      refine gf_X12_102 F hI gs_131 rfl bd_131_11 dX12_readThing_24 (fun v77 ev77 av77 bv77 => ?_)
      refine zs_i (rest := []) F (k_X12_thingAt_133 l M2 ⟨hI, hW⟩ v77 (by omega) (by omega)) cs_X12_209 (by decide) (by decide) rfl rfl rfl (Nat.le_of_ble_eq_true rfl) dX12_readThing_27 (fun v78 M79 rv78 hI p80 => ?_)
      obtain ⟨hI, hW⟩ := hI
      obtain ⟨⟨av78, bv78⟩, rfl, yp80⟩ := p80
      refine z_iconst F dX12_readThing_30 ?_
      refine z_icmp_eq (tgt := 39) F dX12_readThing_31 (by decide +kernel) (by omega) (by omega) (fun c81 => ?_) (fun c81 => ?_)
      · refine z_loc [0] (ls' := [(0, .ref (ad 131))]) rfl ?_
        have c3982 : Im (¬ M 131 10 = 3) (numB 0 (M 133 1 - 1) noB (absR M2) = th2 (dR M) (absR M)) := fun ht => by
          have v9 : s_vl (absR M2) = v77 := by rw [(vR_tk (show M2 131 12 = 0 by omega)).2.2.2]; unfold vlR; rw [if_pos (by omega)]; omega
          have t9 : d_h (dR M) v77 = false := (congrArg (fun D => d_h D v77) (show dR M2 = dR M from dR_f (fun b => fp3.at (by decide)))).symm.trans (yp80.elim (fun q => q.2) (fun q => absurd q.1 (by omega)))
          unfold th2
          rw [a1 ht]
          exact numB_v (fun g0 g1 q1 q2 => by rw [v9]; exact t9.symm)
        exact cut39 M2 hI hW hF (by omega) (by omega) hL hT c3982 (fun ht q => (a1 ht).symm) (by omega) (show dR M2 = dR M from dR_f (fun b => fp3.at (by decide)))
      · refine z_aload_n F dX12_readThing_34 rfl (q := 0) rfl ?_
        refine z_iconst F dX12_readThing_35 ?_
        refine zv_v (rest := []) F (kp_X12_blames l M2 ⟨hI, hW⟩ 3 (by omega) (by omega)) cs_X12_133 (T := TX12) (N := 44) (ci := 12) rfl gs_131 (by decide) (by decide) rfl rfl rfl (Nat.le_of_ble_eq_true rfl) dX12_readThing_36 (fun M83 hI p84 => ?_)
        obtain ⟨hI, hW⟩ := hI
        obtain ⟨fp84, xp84, yp84⟩ := p84
        have hF := hF.call fp84 (by decide)
        have tM83_133_6 : M83 133 6 = M2 133 6 := fp84.at (by decide)
        have tM83_133_1 : M83 133 1 = M2 133 1 := fp84.at (by decide)
        have tM83_133_2 : M83 133 2 = M2 133 2 := fp84.at (by decide)
        have tM83_133_4 : M83 133 4 = M2 133 4 := fp84.at (by decide)
        have tM83_133_3 : M83 133 3 = M2 133 3 := fp84.at (by decide)
        have hq9 := wl_fr fp84 (by decide)
        have hL := hq9.2 hL
        have cM83 := hq9.1
        clear hq9
        obtain ⟨qp84_0, qp84_1, qp84_2, qp84_3, qp84_4, qp84_5⟩ := xp84
        have kbM83 : 0 ≤ M83 131 12 ∧ M83 131 12 ≤ 4 := hI.at (show Bd 131 12 = (0, 4) from rfl)
        have hT := tk_eq hT qp84_2 qp84_3 qp84_4
        refine z_loc [0] (ls' := [(0, .ref (ad 131))]) rfl ?_
        have c3985 : Im (¬ M 131 10 = 3) (numB 0 (M 133 1 - 1) noB (absR M83) = th2 (dR M) (absR M)) := fun ht => by
          have v9 : s_vl (absR M2) = v77 := by rw [(vR_tk (show M2 131 12 = 0 by omega)).2.2.2]; unfold vlR; rw [if_pos (by omega)]; omega
          have t9 : d_h (dR M) v77 = true := (congrArg (fun D => d_h D v77) (show dR M2 = dR M from dR_f (fun b => fp3.at (by decide)))).symm.trans (yp80.elim (fun q => absurd q.1 (by omega)) (fun q => q.2))
          rw [← yp84]
          unfold th2
          rw [a1 ht]
          exact numB_b (bar := d_h (dR M)) ((vR_fl M2).trans (by omega)) ((vR_tk (by omega)).1.trans (by unfold tkR; omega)) (fun q1 q2 => by rw [v9]; exact t9)
        exact cut39 M83 hI hW hF (by omega) (by omega) hL hT c3985 (fun ht q => by exfalso; omega) (by omega) ((show dR M83 = dR M2 from dR_f (fun b => fp84.at (by decide))).trans (show dR M2 = dR M from dR_f (fun b => fp3.at (by decide))))
  · exact hret _ 10 _ ⟨hI, hW⟩ ⟨hF, ⟨hL, by omega, by omega, by omega, by omega, by omega, by omega, by omega, hT, by omega, by omega, by omega⟩, (fun h0 ht => thing_1 (show th1 (dR M) (absR M) = absR M2 from yp3 h0 ht (show M 133 2 ≤ 8 from (hI0.at (show Bd 133 2 = (0, 8) from rfl)).2)) (by rw [vR_fl]; omega))⟩ dX12_readThing_10
