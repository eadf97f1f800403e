def Tk (M : Mem) : Prop := M 131 10 = 0 ∨ M 131 9 < M 131 8
theorem tk_eq {M M' : Mem} (h : Tk M) (h8 : M' 131 8 = M 131 8) (h9 : M' 131 9 = M 131 9) (h10 : M' 131 10 = M 131 10) : Tk M' := by unfold Tk; rw [h8, h9, h10]; exact h
theorem tk_ws {M M' : Mem} {k j : Nat} (f : ∀ a b, ¬ (a = k ∧ b = j) → M' a b = M a b) (hk : 131 ≠ k) (h : Tk M) : Tk M' := tk_eq h (f _ _ (fun q => hk q.1)) (f _ _ (fun q => hk q.1)) (f _ _ (fun q => hk q.1))
theorem dX12_mustWord_0 : decode cX12_mustWord 0 = .ok (.aload_n 0, 1) := by decide +kernel
theorem dX12_mustWord_1 : decode cX12_mustWord 1 = .ok (.aload_n 1, 1) := by decide +kernel
theorem dX12_mustWord_10 : decode cX12_mustWord 10 = .ok (.invokevirtual 133, 3) := by decide +kernel
theorem dX12_mustWord_13 : decode cX12_mustWord 13 = .ok (.return_, 1) := by decide +kernel
theorem dX12_mustWord_2 : decode cX12_mustWord 2 = .ok (.invokevirtual 130, 3) := by decide +kernel
theorem dX12_mustWord_5 : decode cX12_mustWord 5 = .ok (.ifCond .ne 8, 3) := by decide +kernel
theorem dX12_mustWord_8 : decode cX12_mustWord 8 = .ok (.aload_n 0, 1) := by decide +kernel
theorem dX12_mustWord_9 : decode cX12_mustWord 9 = .ok (.iconst 2, 1) := by decide +kernel
theorem dX12_readTouch_0 : decode cX12_readTouch 0 = .ok (.aload_n 0, 1) := by decide +kernel
theorem dX12_readTouch_1 : decode cX12_readTouch 1 = .ok (.iconst 3, 1) := by decide +kernel
theorem dX12_readTouch_10 : decode cX12_readTouch 10 = .ok (.return_, 1) := by decide +kernel
theorem dX12_readTouch_100 : decode cX12_readTouch 100 = .ok (.aload_n 0, 1) := by decide +kernel
theorem dX12_readTouch_101 : decode cX12_readTouch 101 = .ok (.getfield 13, 3) := by decide +kernel
theorem dX12_readTouch_104 : decode cX12_readTouch 104 = .ok (.iconst 1, 1) := by decide +kernel
theorem dX12_readTouch_105 : decode cX12_readTouch 105 = .ok (.iaload, 1) := by decide +kernel
theorem dX12_readTouch_106 : decode cX12_readTouch 106 = .ok (.iconst 1, 1) := by decide +kernel
theorem dX12_readTouch_107 : decode cX12_readTouch 107 = .ok (.isub, 1) := by decide +kernel
theorem dX12_readTouch_108 : decode cX12_readTouch 108 = .ok (.invokevirtual 199, 3) := by decide +kernel
theorem dX12_readTouch_11 : decode cX12_readTouch 11 = .ok (.aload_n 0, 1) := by decide +kernel
theorem dX12_readTouch_111 : decode cX12_readTouch 111 = .ok (.istore_n 3, 1) := by decide +kernel
theorem dX12_readTouch_112 : decode cX12_readTouch 112 = .ok (.aload_n 0, 1) := by decide +kernel
theorem dX12_readTouch_113 : decode cX12_readTouch 113 = .ok (.ldc 194, 2) := by decide +kernel
theorem dX12_readTouch_115 : decode cX12_readTouch 115 = .ok (.invokevirtual 130, 3) := by decide +kernel
theorem dX12_readTouch_118 : decode cX12_readTouch 118 = .ok (.ifCond .eq 7, 3) := by decide +kernel
theorem dX12_readTouch_12 : decode cX12_readTouch 12 = .ok (.iconst 0, 1) := by decide +kernel
theorem dX12_readTouch_121 : decode cX12_readTouch 121 = .ok (.iconst 2, 1) := by decide +kernel
theorem dX12_readTouch_122 : decode cX12_readTouch 122 = .ok (.goto 4, 3) := by decide +kernel
theorem dX12_readTouch_125 : decode cX12_readTouch 125 = .ok (.iconst 1, 1) := by decide +kernel
theorem dX12_readTouch_126 : decode cX12_readTouch 126 = .ok (.istore 4, 2) := by decide +kernel
theorem dX12_readTouch_128 : decode cX12_readTouch 128 = .ok (.aload_n 0, 1) := by decide +kernel
theorem dX12_readTouch_129 : decode cX12_readTouch 129 = .ok (.getfield 108, 3) := by decide +kernel
theorem dX12_readTouch_13 : decode cX12_readTouch 13 = .ok (.aload_n 0, 1) := by decide +kernel
theorem dX12_readTouch_132 : decode cX12_readTouch 132 = .ok (.ifCond .eq 4, 3) := by decide +kernel
theorem dX12_readTouch_135 : decode cX12_readTouch 135 = .ok (.return_, 1) := by decide +kernel
theorem dX12_readTouch_136 : decode cX12_readTouch 136 = .ok (.aload_n 0, 1) := by decide +kernel
theorem dX12_readTouch_137 : decode cX12_readTouch 137 = .ok (.getfield 13, 3) := by decide +kernel
theorem dX12_readTouch_14 : decode cX12_readTouch 14 = .ok (.getfield 13, 3) := by decide +kernel
theorem dX12_readTouch_140 : decode cX12_readTouch 140 = .ok (.bipush 50, 2) := by decide +kernel
theorem dX12_readTouch_142 : decode cX12_readTouch 142 = .ok (.bipush 10, 2) := by decide +kernel
theorem dX12_readTouch_144 : decode cX12_readTouch 144 = .ok (.iload_n 1, 1) := by decide +kernel
theorem dX12_readTouch_145 : decode cX12_readTouch 145 = .ok (.imul, 1) := by decide +kernel
theorem dX12_readTouch_146 : decode cX12_readTouch 146 = .ok (.iadd, 1) := by decide +kernel
theorem dX12_readTouch_147 : decode cX12_readTouch 147 = .ok (.iload_n 3, 1) := by decide +kernel
theorem dX12_readTouch_148 : decode cX12_readTouch 148 = .ok (.iadd, 1) := by decide +kernel
theorem dX12_readTouch_149 : decode cX12_readTouch 149 = .ok (.iload 4, 2) := by decide +kernel
theorem dX12_readTouch_151 : decode cX12_readTouch 151 = .ok (.iastore, 1) := by decide +kernel
theorem dX12_readTouch_152 : decode cX12_readTouch 152 = .ok (.aload_n 0, 1) := by decide +kernel
theorem dX12_readTouch_153 : decode cX12_readTouch 153 = .ok (.getfield 13, 3) := by decide +kernel
theorem dX12_readTouch_156 : decode cX12_readTouch 156 = .ok (.bipush 50, 2) := by decide +kernel
theorem dX12_readTouch_158 : decode cX12_readTouch 158 = .ok (.bipush 10, 2) := by decide +kernel
theorem dX12_readTouch_160 : decode cX12_readTouch 160 = .ok (.iload_n 3, 1) := by decide +kernel
theorem dX12_readTouch_161 : decode cX12_readTouch 161 = .ok (.imul, 1) := by decide +kernel
theorem dX12_readTouch_162 : decode cX12_readTouch 162 = .ok (.iadd, 1) := by decide +kernel
theorem dX12_readTouch_163 : decode cX12_readTouch 163 = .ok (.iload_n 1, 1) := by decide +kernel
theorem dX12_readTouch_164 : decode cX12_readTouch 164 = .ok (.iadd, 1) := by decide +kernel
theorem dX12_readTouch_165 : decode cX12_readTouch 165 = .ok (.iload 4, 2) := by decide +kernel
theorem dX12_readTouch_167 : decode cX12_readTouch 167 = .ok (.iastore, 1) := by decide +kernel
theorem dX12_readTouch_168 : decode cX12_readTouch 168 = .ok (.aload_n 0, 1) := by decide +kernel
theorem dX12_readTouch_169 : decode cX12_readTouch 169 = .ok (.getfield 13, 3) := by decide +kernel
theorem dX12_readTouch_17 : decode cX12_readTouch 17 = .ok (.iconst 1, 1) := by decide +kernel
theorem dX12_readTouch_172 : decode cX12_readTouch 172 = .ok (.iconst 3, 1) := by decide +kernel
theorem dX12_readTouch_173 : decode cX12_readTouch 173 = .ok (.dup2, 1) := by decide +kernel
theorem dX12_readTouch_174 : decode cX12_readTouch 174 = .ok (.iaload, 1) := by decide +kernel
theorem dX12_readTouch_175 : decode cX12_readTouch 175 = .ok (.iconst 1, 1) := by decide +kernel
theorem dX12_readTouch_176 : decode cX12_readTouch 176 = .ok (.iadd, 1) := by decide +kernel
theorem dX12_readTouch_177 : decode cX12_readTouch 177 = .ok (.iastore, 1) := by decide +kernel
theorem dX12_readTouch_178 : decode cX12_readTouch 178 = .ok (.return_, 1) := by decide +kernel
theorem dX12_readTouch_18 : decode cX12_readTouch 18 = .ok (.iaload, 1) := by decide +kernel
theorem dX12_readTouch_19 : decode cX12_readTouch 19 = .ok (.iconst 1, 1) := by decide +kernel
theorem dX12_readTouch_2 : decode cX12_readTouch 2 = .ok (.bipush 20, 2) := by decide +kernel
theorem dX12_readTouch_20 : decode cX12_readTouch 20 = .ok (.isub, 1) := by decide +kernel
theorem dX12_readTouch_21 : decode cX12_readTouch 21 = .ok (.invokevirtual 199, 3) := by decide +kernel
theorem dX12_readTouch_24 : decode cX12_readTouch 24 = .ok (.istore_n 1, 1) := by decide +kernel
theorem dX12_readTouch_25 : decode cX12_readTouch 25 = .ok (.aload_n 0, 1) := by decide +kernel
theorem dX12_readTouch_26 : decode cX12_readTouch 26 = .ok (.getfield 108, 3) := by decide +kernel
theorem dX12_readTouch_29 : decode cX12_readTouch 29 = .ok (.ifCond .ne 58, 3) := by decide +kernel
theorem dX12_readTouch_32 : decode cX12_readTouch 32 = .ok (.aload_n 0, 1) := by decide +kernel
theorem dX12_readTouch_33 : decode cX12_readTouch 33 = .ok (.getfield 88, 3) := by decide +kernel
theorem dX12_readTouch_36 : decode cX12_readTouch 36 = .ok (.iconst 2, 1) := by decide +kernel
theorem dX12_readTouch_37 : decode cX12_readTouch 37 = .ok (.if_icmp .ne 50, 3) := by decide +kernel
theorem dX12_readTouch_4 : decode cX12_readTouch 4 = .ok (.invokevirtual 203, 3) := by decide +kernel
theorem dX12_readTouch_40 : decode cX12_readTouch 40 = .ok (.aload_n 0, 1) := by decide +kernel
theorem dX12_readTouch_41 : decode cX12_readTouch 41 = .ok (.getfield 102, 3) := by decide +kernel
theorem dX12_readTouch_44 : decode cX12_readTouch 44 = .ok (.iload_n 1, 1) := by decide +kernel
theorem dX12_readTouch_45 : decode cX12_readTouch 45 = .ok (.if_icmp .eq 38, 3) := by decide +kernel
theorem dX12_readTouch_48 : decode cX12_readTouch 48 = .ok (.aload_n 0, 1) := by decide +kernel
theorem dX12_readTouch_49 : decode cX12_readTouch 49 = .ok (.getfield 102, 3) := by decide +kernel
theorem dX12_readTouch_52 : decode cX12_readTouch 52 = .ok (.i2l, 1) := by decide +kernel
theorem dX12_readTouch_53 : decode cX12_readTouch 53 = .ok (.lconst 0, 1) := by decide +kernel
theorem dX12_readTouch_54 : decode cX12_readTouch 54 = .ok (.ldc2_w 207, 3) := by decide +kernel
theorem dX12_readTouch_57 : decode cX12_readTouch 57 = .ok (.invokestatic 137, 3) := by decide +kernel
theorem dX12_readTouch_60 : decode cX12_readTouch 60 = .ok (.ifCond .eq 27, 3) := by decide +kernel
theorem dX12_readTouch_63 : decode cX12_readTouch 63 = .ok (.aload_n 0, 1) := by decide +kernel
theorem dX12_readTouch_64 : decode cX12_readTouch 64 = .ok (.getfield 13, 3) := by decide +kernel
theorem dX12_readTouch_67 : decode cX12_readTouch 67 = .ok (.bipush 50, 2) := by decide +kernel
theorem dX12_readTouch_69 : decode cX12_readTouch 69 = .ok (.bipush 10, 2) := by decide +kernel
theorem dX12_readTouch_7 : decode cX12_readTouch 7 = .ok (.ifCond .ne 4, 3) := by decide +kernel
theorem dX12_readTouch_71 : decode cX12_readTouch 71 = .ok (.iload_n 1, 1) := by decide +kernel
theorem dX12_readTouch_72 : decode cX12_readTouch 72 = .ok (.imul, 1) := by decide +kernel
theorem dX12_readTouch_73 : decode cX12_readTouch 73 = .ok (.iadd, 1) := by decide +kernel
theorem dX12_readTouch_74 : decode cX12_readTouch 74 = .ok (.aload_n 0, 1) := by decide +kernel
theorem dX12_readTouch_75 : decode cX12_readTouch 75 = .ok (.getfield 102, 3) := by decide +kernel
theorem dX12_readTouch_78 : decode cX12_readTouch 78 = .ok (.iadd, 1) := by decide +kernel
theorem dX12_readTouch_79 : decode cX12_readTouch 79 = .ok (.iaload, 1) := by decide +kernel
theorem dX12_readTouch_80 : decode cX12_readTouch 80 = .ok (.ifCond .eq 7, 3) := by decide +kernel
theorem dX12_readTouch_83 : decode cX12_readTouch 83 = .ok (.iconst 1, 1) := by decide +kernel
theorem dX12_readTouch_84 : decode cX12_readTouch 84 = .ok (.goto 4, 3) := by decide +kernel
theorem dX12_readTouch_87 : decode cX12_readTouch 87 = .ok (.iconst 0, 1) := by decide +kernel
theorem dX12_readTouch_88 : decode cX12_readTouch 88 = .ok (.istore_n 2, 1) := by decide +kernel
theorem dX12_readTouch_89 : decode cX12_readTouch 89 = .ok (.iload_n 2, 1) := by decide +kernel
theorem dX12_readTouch_90 : decode cX12_readTouch 90 = .ok (.ifCond .eq 8, 3) := by decide +kernel
theorem dX12_readTouch_93 : decode cX12_readTouch 93 = .ok (.aload_n 0, 1) := by decide +kernel
theorem dX12_readTouch_94 : decode cX12_readTouch 94 = .ok (.iconst 3, 1) := by decide +kernel
theorem dX12_readTouch_95 : decode cX12_readTouch 95 = .ok (.invokevirtual 133, 3) := by decide +kernel
theorem dX12_readTouch_98 : decode cX12_readTouch 98 = .ok (.aload_n 0, 1) := by decide +kernel
theorem dX12_readTouch_99 : decode cX12_readTouch 99 = .ok (.iconst 0, 1) := by decide +kernel
set_option maxHeartbeats 4000000 in
set_option maxRecDepth 4000 in
theorem kp_X12_readTouch (l : Launch) (M : Mem) (hJ : Iw M) (hp0 : 0 ≤ M 131 9 ∧ M 131 9 ≤ M 131 8 ∧ M 131 8 ≤ M 131 7 ∧ M 131 7 ≤ 900 ∧ (M 131 10 = 0 ∨ M 131 9 < M 131 8)) (hp1 : M 133 6 ≤ M 131 9) (hp2 : Wl M) (hp3 : M 131 16 = 0) : CV l yX12_readTouch cX12_readTouch 5 none 7 (fun ad => [.ref (ad 131)]) M (fun M' => Fr [131, 133, 233] M M' ∧ (Wl M' ∧ M' 131 7 = M 131 7 ∧ M' 131 16 = M 131 16 ∧ M 131 9 ≤ M' 131 9 ∧ 0 ≤ M' 131 9 ∧ M' 131 9 ≤ M' 131 8 ∧ M' 131 8 ≤ M' 131 7 ∧ M' 131 7 ≤ 900 ∧ (M' 131 10 = 0 ∨ M' 131 9 < M' 131 8) ∧ M' 133 6 = M 133 6 ∧ M' 133 1 = M 133 1 ∧ (M' 131 12 = 0 → M 131 12 = 0)) ∧ (Im (M 131 12 = 0) (Im (¬ M 131 10 = 3) (tR M' = touchF (absR M, dR M))))) := by
  obtain ⟨hI, hW⟩ := hJ
  have hF : Fr [131, 133, 233] M M := Fr.rf
  have hI0 := hI
  have hW0 := hW
  refine en_v (by decide +kernel) (fun ad => by exact Nat.le_of_ble_eq_true rfl) (fun D cy ad A p e s m args below meth c Q F hret => ?_)
  refine z_eq (ls' := [(0, .ref (ad 131))]) rfl rfl rfl ?_
  have hL := hp2
  obtain ⟨g1, g2, g3, g4, hT⟩ := hp0
  have hT : Tk M := hT
  have kbM : 0 ≤ M 131 12 ∧ M 131 12 ≤ 4 := hI.at (show Bd 131 12 = (0, 4) from rfl)
  have b1 := hI0.at (show Bd 133 1 = (0, 10) from rfl)
  refine z_aload_n F dX12_readTouch_0 rfl (q := 0) rfl ?_
  refine z_iconst F dX12_readTouch_1 ?_
  refine z_bipush F dX12_readTouch_2 (by decide +kernel) ?_
  refine zv_i (rest := []) F (kp_X12_begins l M ⟨hI, hW⟩ 3 (by omega) (by omega) 20 (by omega) (by omega) ⟨by omega, by omega, by omega, by omega, hT⟩) cs_X12_203 (T := TX12) (N := 44) (ci := 12) rfl gs_131 (by decide) (by decide) rfl rfl rfl (Nat.le_of_ble_eq_true rfl) dX12_readTouch_4 (fun v1 M2 rv1 hI p3 => ?_)
  obtain ⟨hI, hW⟩ := hI
  obtain ⟨⟨av1, bv1⟩, fp3, xp3, yp3⟩ := p3
  have hF := hF.call fp3 (by decide)
  have tM2_133_6 : M2 133 6 = M 133 6 := fp3.at (by decide)
  have tM2_133_1 : M2 133 1 = M 133 1 := fp3.at (by decide)
  have tM2_133_2 : M2 133 2 = M 133 2 := fp3.at (by decide)
  have tM2_133_4 : M2 133 4 = M 133 4 := fp3.at (by decide)
  have tM2_133_3 : M2 133 3 = M 133 3 := fp3.at (by decide)
  have hq9 := wl_fr fp3 (by decide)
  have hL := hq9.2 hL
  have cM2 := hq9.1
  clear hq9
  have hbv1 : M 133 (3 : Int).toNat = M 133 3 := rfl
  obtain ⟨qp3_0, qp3_1, qp3_2, qp3_3, qp3_4, qp3_5, qp3_6, qp3_7, qp3_8, qp3_9, qp3_10⟩ := xp3
  have kbM2 : 0 ≤ M2 131 12 ∧ M2 131 12 ≤ 4 := hI.at (show Bd 131 12 = (0, 4) from rfl)
  have hT : Tk M2 := qp3_7
  clear qp3_7
  have lbqp3_9 : M 131 12 ≤ 4 * M2 131 12 := by omega
  clear qp3_9
  refine z_if_ne (tgt := 11) F dX12_readTouch_7 (by decide +kernel) (by omega) (fun c4 => ?_) (fun c4 => ?_)
  · have h0 : M 131 12 = 0 := by omega
    have a1 : Im (¬ M 131 10 = 3) (tc1 (dR M) (absR M) = absR M2) := fun ht => yp3 h0 ht (show M 133 3 ≤ 20 from (hI0.at (show Bd 133 3 = (0, 20) from rfl)).2)
    refine z_aload_n F dX12_readTouch_11 rfl (q := 0) rfl ?_
    refine z_iconst F dX12_readTouch_12 ?_
    refine z_aload_n F dX12_readTouch_13 rfl (q := 0) rfl ?_
    refine rf_X12_13 F gs_131 rfl dX12_readTouch_14 ?_
    refine z_iconst F dX12_readTouch_17 ?_
    refine z_iald F hI gs_133 (by omega) (by omega) (by decide) (show Bd 133 1 = (0, 10) from rfl) dX12_readTouch_18 (fun v5 (ev5 : v5 = M2 133 1) av5 bv5 => ?_)
    refine z_iconst F dX12_readTouch_19 ?_
    refine z_isub F dX12_readTouch_20 ?_
    refine zv_i (rest := []) F (kp_X12_number l M2 ⟨hI, hW⟩ 0 (by omega) (by omega) (v5 - 1) (by omega) (by omega) ⟨by omega, by omega, by omega, by omega, hT⟩) cs_X12_199 (T := TX12) (N := 44) (ci := 12) rfl gs_131 (by decide) (by decide) rfl rfl rfl (Nat.le_of_ble_eq_true rfl) dX12_readTouch_21 (fun v6 M7 rv6 hI p8 => ?_)
    obtain ⟨hI, hW⟩ := hI
    obtain ⟨⟨av6, bv6⟩, fp8, xp8, yp8⟩ := p8
    have hF := hF.call fp8 (by decide)
    have tM7_133_6 : M7 133 6 = M2 133 6 := fp8.at (by decide)
    have tM7_133_1 : M7 133 1 = M2 133 1 := fp8.at (by decide)
    have tM7_133_2 : M7 133 2 = M2 133 2 := fp8.at (by decide)
    have tM7_133_4 : M7 133 4 = M2 133 4 := fp8.at (by decide)
    have tM7_133_3 : M7 133 3 = M2 133 3 := fp8.at (by decide)
    have hq9 := wl_fr fp8 (by decide)
    have hL := hq9.2 hL
    have cM7 := hq9.1
    clear hq9
    have hkv6 : 0 ≤ v6 ∧ v6 ≤ 9 := by omega
    obtain ⟨qp8_0, qp8_1, qp8_2, qp8_3, qp8_4, qp8_5, qp8_6, qp8_7, qp8_8, qp8_9⟩ := xp8
    have kbM7 : 0 ≤ M7 131 12 ∧ M7 131 12 ≤ 4 := hI.at (show Bd 131 12 = (0, 4) from rfl)
    have hT : Tk M7 := qp8_7
    clear qp8_7
    clear qp8_8
    have lbqp8_9 : M2 131 12 ≤ 4 * M7 131 12 := by omega
    have lpqp8_9 : M2 131 9 + 1 ≤ M7 131 9 + M7 131 12 := by omega
    clear qp8_9
    refine z_istore_n F dX12_readTouch_24 rfl (by decide) (ls' := [(1, ii v6), (0, .ref (ad 131))]) rfl ?_
    have a2 : Im (¬ M 131 10 = 3) (tc2 (dR M) (absR M) = absR M7) := fun ht => by
      unfold tc2
      rw [a1 ht]
      show numB 0 (M 133 1 - 1) noB _ = _
      rw [show M 133 1 - 1 = (v5 - 1) from by omega]
      exact yp8.1
    have cut98 : ∀ (M9 : Mem), Inv M9 → WFk M9 → Fr [131, 133, 233] M M9 → (0 ≤ M9 131 9 ∧ M9 131 9 ≤ M9 131 8 ∧ M9 131 8 ≤ M9 131 7 ∧ M9 131 7 ≤ 900) → (M9 131 7 = M 131 7 ∧ M9 131 16 = M 131 16 ∧ M 131 9 ≤ M9 131 9 ∧ M9 133 6 = M 133 6 ∧ M9 133 1 = M 133 1 ∧ M9 133 2 = M 133 2 ∧ M9 133 4 = M 133 4 ∧ M9 133 3 = M 133 3 ∧ M 131 12 ≤ 4 * M9 131 12 ∧ 0 ≤ M9 131 12 ∧ M9 131 12 ≤ 4) → (Wl M9) → (Tk M9) → (Im (¬ M 131 10 = 3) (numB 0 (M 133 1 - 1) noB (absR M9) = tc3 (dR M) (absR M))) → (Im (¬ M 131 10 = 3) (Im (M9 131 12 = 0) (absR M9 = tc2 (dR M) (absR M)))) → (M7 131 12 ≤ 4 * M9 131 12) → (dR M9 = dR M) → Z D cy ad p l e (RMh 7) s m args below meth c A 5 0 0 Q 98 [(0, .ref (ad 131)), (1, ii v6)] [] M9 := by
      intro M9 hI hW hF j98_0 j98_1 j98_2 j98_3 j98_4 j98_5 j98_6 j98_7
      have hL := j98_2
      have hT := j98_3
      refine z_aload_n F dX12_readTouch_98 rfl (q := 0) rfl ?_
      refine z_iconst F dX12_readTouch_99 ?_
      refine z_aload_n F dX12_readTouch_100 rfl (q := 0) rfl ?_
      refine rf_X12_13 F gs_131 rfl dX12_readTouch_101 ?_
      refine z_iconst F dX12_readTouch_104 ?_
      refine z_iald F hI gs_133 (by omega) (by omega) (by decide) (show Bd 133 1 = (0, 10) from rfl) dX12_readTouch_105 (fun v10 (ev10 : v10 = M9 133 1) av10 bv10 => ?_)
      refine z_iconst F dX12_readTouch_106 ?_
      refine z_isub F dX12_readTouch_107 ?_
      refine zv_i (rest := []) F (kp_X12_number l M9 ⟨hI, hW⟩ 0 (by omega) (by omega) (v10 - 1) (by omega) (by omega) ⟨by omega, by omega, by omega, by omega, hT⟩) cs_X12_199 (T := TX12) (N := 44) (ci := 12) rfl gs_131 (by decide) (by decide) rfl rfl rfl (Nat.le_of_ble_eq_true rfl) dX12_readTouch_108 (fun v11 M12 rv11 hI p13 => ?_)
      obtain ⟨hI, hW⟩ := hI
      obtain ⟨⟨av11, bv11⟩, fp13, xp13, yp13⟩ := p13
      have hF := hF.call fp13 (by decide)
      have tM12_133_6 : M12 133 6 = M9 133 6 := fp13.at (by decide)
      have tM12_133_1 : M12 133 1 = M9 133 1 := fp13.at (by decide)
      have tM12_133_2 : M12 133 2 = M9 133 2 := fp13.at (by decide)
      have tM12_133_4 : M12 133 4 = M9 133 4 := fp13.at (by decide)
      have tM12_133_3 : M12 133 3 = M9 133 3 := fp13.at (by decide)
      have hq9 := wl_fr fp13 (by decide)
      have hL := hq9.2 hL
      have cM12 := hq9.1
      clear hq9
      have hkv11 : 0 ≤ v11 ∧ v11 ≤ 9 := by omega
      obtain ⟨qp13_0, qp13_1, qp13_2, qp13_3, qp13_4, qp13_5, qp13_6, qp13_7, qp13_8, qp13_9⟩ := xp13
      have kbM12 : 0 ≤ M12 131 12 ∧ M12 131 12 ≤ 4 := hI.at (show Bd 131 12 = (0, 4) from rfl)
      have hT : Tk M12 := qp13_7
      clear qp13_7
      clear qp13_8
      have lbqp13_9 : M9 131 12 ≤ 4 * M12 131 12 := by omega
      have lpqp13_9 : M9 131 9 + 1 ≤ M12 131 9 + M12 131 12 := by omega
      clear qp13_9
      refine z_istore_n F dX12_readTouch_111 rfl (by decide) (ls' := [(3, ii v11), (0, .ref (ad 131)), (1, ii v6)]) rfl ?_
      have a3 : Im (¬ M 131 10 = 3) (tc3 (dR M) (absR M) = absR M12) := fun ht => by
        rw [← j98_4 ht, show M 133 1 - 1 = (v10 - 1) from by omega]
        exact yp13.1
      have cut128 : ∀ (y15 : Int) (M14 : Mem), Inv M14 → WFk M14 → Fr [131, 133, 233] M M14 → 1 ≤ y15 → y15 ≤ 2 → (0 ≤ M14 131 9 ∧ M14 131 9 ≤ M14 131 8 ∧ M14 131 8 ≤ M14 131 7 ∧ M14 131 7 ≤ 900) → (M14 131 7 = M 131 7 ∧ M14 131 16 = M 131 16 ∧ M 131 9 ≤ M14 131 9 ∧ M14 133 6 = M 133 6 ∧ M14 133 1 = M 133 1 ∧ M14 133 2 = M 133 2 ∧ M14 133 4 = M 133 4 ∧ M14 133 3 = M 133 3 ∧ M 131 12 ≤ 4 * M14 131 12 ∧ 0 ≤ M14 131 12 ∧ M14 131 12 ≤ 4) → (Wl M14) → (Tk M14) → (Im (¬ M 131 10 = 3) (tc4 (dR M) (absR M) = absR M14)) → (M12 131 12 ≤ 4 * M14 131 12) → (dR M14 = dR M) → Z D cy ad p l e (RMh 7) s m args below meth c A 5 0 0 Q 128 [(0, .ref (ad 131)), (1, ii v6), (3, ii v11), (4, ii y15)] [] M14 := by
        intro y15 M14 hI hW hF ay15 by15 j128_0 j128_1 j128_2 j128_3 j128_4 j128_5 j128_6
        have hL := j128_2
        have hT := j128_3
        refine z_aload_n F dX12_readTouch_128 rfl (q := 0) rfl ?_
        refine gf_X12_108 F hI gs_131 rfl bd_131_12 dX12_readTouch_129 (fun v16 ev16 av16 bv16 => ?_)
        refine z_if_eq (tgt := 136) F dX12_readTouch_132 (by decide +kernel) (by omega) (fun c17 => ?_) (fun c17 => ?_)
        · have hI8 := hI
          refine z_aload_n F dX12_readTouch_136 rfl (q := 0) rfl ?_
          refine rf_X12_13 F gs_131 rfl dX12_readTouch_137 ?_
          refine z_bipush F dX12_readTouch_140 (by decide +kernel) ?_
          refine z_bipush F dX12_readTouch_142 (by decide +kernel) ?_
          refine z_iload_n F dX12_readTouch_144 rfl (q := 1) rfl ?_
          refine z_imul F dX12_readTouch_145 ?_
          refine z_iadd F dX12_readTouch_146 ?_
          refine z_iload_n F dX12_readTouch_147 rfl (q := 2) rfl ?_
          refine z_iadd F dX12_readTouch_148 ?_
          refine z_iload F dX12_readTouch_149 (q := 3) rfl ?_
          refine z_iast F hI gs_133 (by omega) (by omega) (by decide) (bd_133.trans (kn_touch (by omega) (by omega))) dX12_readTouch_151 (by omega) (by omega) (fun M19 hI sf18 f18 => ?_)
          have tM19_131_7 : M19 131 7 = M14 131 7 := f18 131 7 (fun q => absurd q.1 (by decide))
          have tM19_131_8 : M19 131 8 = M14 131 8 := f18 131 8 (fun q => absurd q.1 (by decide))
          have tM19_131_9 : M19 131 9 = M14 131 9 := f18 131 9 (fun q => absurd q.1 (by decide))
          have tM19_131_10 : M19 131 10 = M14 131 10 := f18 131 10 (fun q => absurd q.1 (by decide))
          have tM19_131_12 : M19 131 12 = M14 131 12 := f18 131 12 (fun q => absurd q.1 (by decide))
          have tM19_131_16 : M19 131 16 = M14 131 16 := f18 131 16 (fun q => absurd q.1 (by decide))
          have tM19_133_6 : M19 133 6 = M14 133 6 := f18 133 6 (fun q => by have := q.2; omega)
          have tM19_133_1 : M19 133 1 = M14 133 1 := f18 133 1 (fun q => by have := q.2; omega)
          have tM19_133_2 : M19 133 2 = M14 133 2 := f18 133 2 (fun q => by have := q.2; omega)
          have tM19_133_4 : M19 133 4 = M14 133 4 := f18 133 4 (fun q => by have := q.2; omega)
          have tM19_133_3 : M19 133 3 = M14 133 3 := f18 133 3 (fun q => by have := q.2; omega)
          have hT := tk_ws f18 (by decide) hT
          have hq9 := wl_wr f18 (by omega)
          have hL := hq9.2 hL
          have cM19 := hq9.1
          clear hq9
          have hF := hF.wrn f18 (by decide) (Or.inr (by decide))
          have hW : WFk M19 := hW.site f18 (by decide)
          refine z_aload_n F dX12_readTouch_152 rfl (q := 0) rfl ?_
          refine rf_X12_13 F gs_131 rfl dX12_readTouch_153 ?_
          refine z_bipush F dX12_readTouch_156 (by decide +kernel) ?_
          refine z_bipush F dX12_readTouch_158 (by decide +kernel) ?_
          refine z_iload_n F dX12_readTouch_160 rfl (q := 2) rfl ?_
          refine z_imul F dX12_readTouch_161 ?_
          refine z_iadd F dX12_readTouch_162 ?_
          refine z_iload_n F dX12_readTouch_163 rfl (q := 1) rfl ?_
          refine z_iadd F dX12_readTouch_164 ?_
          refine z_iload F dX12_readTouch_165 (q := 3) rfl ?_
          refine z_iast F hI gs_133 (by omega) (by omega) (by decide) (bd_133.trans (kn_touch (by omega) (by omega))) dX12_readTouch_167 (by omega) (by omega) (fun M21 hI sf20 f20 => ?_)
          have tM21_131_7 : M21 131 7 = M19 131 7 := f20 131 7 (fun q => absurd q.1 (by decide))
          have tM21_131_8 : M21 131 8 = M19 131 8 := f20 131 8 (fun q => absurd q.1 (by decide))
          have tM21_131_9 : M21 131 9 = M19 131 9 := f20 131 9 (fun q => absurd q.1 (by decide))
          have tM21_131_10 : M21 131 10 = M19 131 10 := f20 131 10 (fun q => absurd q.1 (by decide))
          have tM21_131_12 : M21 131 12 = M19 131 12 := f20 131 12 (fun q => absurd q.1 (by decide))
          have tM21_131_16 : M21 131 16 = M19 131 16 := f20 131 16 (fun q => absurd q.1 (by decide))
          have tM21_133_6 : M21 133 6 = M19 133 6 := f20 133 6 (fun q => by have := q.2; omega)
          have tM21_133_1 : M21 133 1 = M19 133 1 := f20 133 1 (fun q => by have := q.2; omega)
          have tM21_133_2 : M21 133 2 = M19 133 2 := f20 133 2 (fun q => by have := q.2; omega)
          have tM21_133_4 : M21 133 4 = M19 133 4 := f20 133 4 (fun q => by have := q.2; omega)
          have tM21_133_3 : M21 133 3 = M19 133 3 := f20 133 3 (fun q => by have := q.2; omega)
          have hT := tk_ws f20 (by decide) hT
          have hq9 := wl_wr f20 (by omega)
          have hL := hq9.2 hL
          have cM21 := hq9.1
          clear hq9
          have hF := hF.wrn f20 (by decide) (Or.inr (by decide))
          have hW : WFk M21 := hW.site f20 (by decide)
          refine z_aload_n F dX12_readTouch_168 rfl (q := 0) rfl ?_
          refine rf_X12_13 F gs_131 rfl dX12_readTouch_169 ?_
          refine z_iconst F dX12_readTouch_172 ?_
          refine z_dup2 F dX12_readTouch_173 rfl rfl ?_
          refine z_iald F hI gs_133 (by omega) (by omega) (by decide) (show Bd 133 3 = (0, 20) from rfl) dX12_readTouch_174 (fun v22 (ev22 : v22 = M21 133 3) av22 bv22 => ?_)
          refine z_iconst F dX12_readTouch_175 ?_
          have k23 : 0 ≤ v22 ∧ v22 ≤ 19 := by omega
          refine z_iadd F dX12_readTouch_176 ?_
          refine z_nm (fun v25 ev25 => ?_)
          refine z_iast F hI gs_133 (by omega) (by omega) (by decide) (show Bd 133 3 = (0, 20) from rfl) dX12_readTouch_177 (by omega) (by omega) (fun M26 hI sf24 f24 => ?_)
          have tM26_131_7 : M26 131 7 = M21 131 7 := f24 131 7 (fun q => absurd q.1 (by decide))
          have tM26_131_8 : M26 131 8 = M21 131 8 := f24 131 8 (fun q => absurd q.1 (by decide))
          have tM26_131_9 : M26 131 9 = M21 131 9 := f24 131 9 (fun q => absurd q.1 (by decide))
          have tM26_131_10 : M26 131 10 = M21 131 10 := f24 131 10 (fun q => absurd q.1 (by decide))
          have tM26_131_12 : M26 131 12 = M21 131 12 := f24 131 12 (fun q => absurd q.1 (by decide))
          have tM26_131_16 : M26 131 16 = M21 131 16 := f24 131 16 (fun q => absurd q.1 (by decide))
          have tM26_133_6 : M26 133 6 = M21 133 6 := f24 133 6 (fun q => absurd q.2 (by decide))
          have tM26_133_1 : M26 133 1 = M21 133 1 := f24 133 1 (fun q => absurd q.2 (by decide))
          have tM26_133_2 : M26 133 2 = M21 133 2 := f24 133 2 (fun q => absurd q.2 (by decide))
          have tM26_133_4 : M26 133 4 = M21 133 4 := f24 133 4 (fun q => absurd q.2 (by decide))
          have hT := tk_ws f24 (by decide) hT
          have hq9 := wl_wr f24 (by omega)
          have hL := hq9.2 hL
          have cM26 := hq9.1
          clear hq9
          have hF := hF.wrn f24 (by decide) (Or.inr (by decide))
          have hW : WFk M26 := hW.site f24 (by decide)
          have sf24 : M26 133 3 = v25 := sf24
          have yy27 : Im (¬ M 131 10 = 3) (tR M26 = touchF (absR M, dR M)) := fun ht => by
            have p9 := yp8.2 (show M7 131 12 = 0 by omega)
            have q9 := yp13.2 (show M12 131 12 = 0 by omega)
            have b9 := j98_5 ht (by omega)
            have k8 : 0 ≤ s_vl (tc1 (dR M) (absR M)) ∧ s_vl (tc1 (dR M) (absR M)) ≤ M 133 1 - 1 := (numB_ok (show s_fl (tc2 (dR M) (absR M)) = 0 from by rw [a2 ht]; exact ((vR_fl M7).trans (by omega)))).2
            have k9 : 0 ≤ s_vl (tc2 (dR M) (absR M)) ∧ s_vl (tc2 (dR M) (absR M)) ≤ M 133 1 - 1 := (numB_ok (show s_fl (tc3 (dR M) (absR M)) = 0 from by rw [a3 ht]; exact ((vR_fl M12).trans (by omega)))).2
            rw [a1 ht, ← p9] at k8
            rw [← b9, ← q9] at k9
            have s2 : M26 133 (50 + 10 * v11 + v6).toNat = y15 := (f24 133 _ (fun q => by have := q.2; omega)).trans sf20
            have s1 : M26 133 (50 + 10 * v6 + v11).toNat = y15 := if hq : (50 + 10 * v6 + v11).toNat = (50 + 10 * v11 + v6).toNat then (by rw [hq]; exact s2) else (f24 133 _ (fun q => by have := q.2; omega)).trans ((f20 133 _ (fun q => hq q.2)).trans sf18)
            have dd : dR M26 = addT (dR M14) v6 v11 := dR_touch (v := y15) hI8 (by omega) (by omega) (by omega) (by omega) (by omega) s1 s2 (show M26 133 3 = M14 133 3 + 1 from by omega) (fun b r1 r2 r3 => ((f24 133 b (fun q => by have := q.2; omega)).trans ((f20 133 b (fun q => by have := q.2; omega)).trans (f18 133 b (fun q => by have := q.2; omega)))))
            exact touch_4 ((j128_4 ht).trans (absR_eq (fun j => ((f24 131 j (fun q => absurd q.1 (by decide))).trans ((f20 131 j (fun q => absurd q.1 (by decide))).trans (f18 131 j (fun q => absurd q.1 (by decide)))))) (fun j => ((f24 136 j (fun q => absurd q.1 (by decide))).trans ((f20 136 j (fun q => absurd q.1 (by decide))).trans (f18 136 j (fun q => absurd q.1 (by decide)))))) : absR M26 = absR M14).symm) (fun q => by rw [dd, j128_6, ← b9, ← q9, a1 ht, ← p9])
          exact hret _ 178 _ ⟨hI, hW⟩ ⟨hF, ⟨hL, by omega, by omega, by omega, by omega, by omega, by omega, by omega, hT, by omega, by omega, by omega⟩, (fun h0 ht => yy27 ht)⟩ dX12_readTouch_178
        · exact hret _ 135 _ ⟨hI, hW⟩ ⟨hF, ⟨hL, by omega, by omega, by omega, by omega, by omega, by omega, by omega, hT, by omega, by omega, by omega⟩, (fun h0 ht => touch_4 (j128_4 ht) (fun q => by exfalso; have g9 := (vR_fl M14).symm.trans q; omega))⟩ dX12_readTouch_135
      refine z_aload_n F dX12_readTouch_112 rfl (q := 1) rfl ?_
      refine z_ldcS (j := 59) F dX12_readTouch_113 rfl rfl rfl ?_
      refine z_eq (st' := [.ref (ad 1059), .ref (ad 131)]) rfl rfl rfl ?_
      refine zv_i (rest := []) F (kp_X12_took_131_1059 l M12 ⟨hI, hW⟩ ⟨by omega, by omega, by omega, by omega, hT⟩) cs_X12_130 (T := TX12) (N := 44) (ci := 12) rfl gs_131 (by decide) (by decide) rfl rfl rfl (Nat.le_of_ble_eq_true rfl) dX12_readTouch_115 (fun v28 M29 rv28 hI p30 => ?_)
      obtain ⟨hI, hW⟩ := hI
      obtain ⟨⟨av28, bv28⟩, fp30, xp30, yp30⟩ := p30
      have hF := hF.call fp30 (by decide)
      have tM29_133_6 : M29 133 6 = M12 133 6 := fp30.at (by decide)
      have tM29_133_1 : M29 133 1 = M12 133 1 := fp30.at (by decide)
      have tM29_133_2 : M29 133 2 = M12 133 2 := fp30.at (by decide)
      have tM29_133_4 : M29 133 4 = M12 133 4 := fp30.at (by decide)
      have tM29_133_3 : M29 133 3 = M12 133 3 := fp30.at (by decide)
      have hq9 := wl_fr fp30 (by decide)
      have hL := hq9.2 hL
      have cM29 := hq9.1
      clear hq9
      obtain ⟨qp30_0, qp30_1, qp30_2, qp30_3, qp30_4, qp30_5, qp30_6, qp30_7, qp30_8, qp30_9⟩ := xp30
      have kbM29 : 0 ≤ M29 131 12 ∧ M29 131 12 ≤ 4 := hI.at (show Bd 131 12 = (0, 4) from rfl)
      have hT : Tk M29 := qp30_7
      clear qp30_7
      have lzqp30_9 : M12 131 9 + v28 ≤ M29 131 9 := by omega
      clear qp30_9
      refine z_if_eq (tgt := 125) F dX12_readTouch_118 (by decide +kernel) (by omega) (fun c31 => ?_) (fun c31 => ?_)
      · refine z_iconst F dX12_readTouch_125 ?_
        refine z_istore F dX12_readTouch_126 (by decide) (ls' := [(4, ii 1), (3, ii v11), (0, .ref (ad 131)), (1, ii v6)]) rfl ?_
        refine z_loc [2, 3, 1, 0] (ls' := [(0, .ref (ad 131)), (1, ii v6), (3, ii v11), (4, ii 1)]) rfl ?_
        exact cut128 1 M29 hI hW hF (by omega) (by omega) (by omega) (by omega) hL hT (fun ht => by unfold tc4; rw [a3 ht]; exact yp30.2) (by omega) (((show dR M29 = dR M12 from dR_f (fun b => fp30.at (by decide))).trans (show dR M12 = dR M9 from dR_f (fun b => fp13.at (by decide)))).trans j98_7)
      · refine z_iconst F dX12_readTouch_121 ?_
        refine z_goto (tgt := 126) F dX12_readTouch_122 (by decide +kernel) ?_
        refine z_istore F dX12_readTouch_126 (by decide) (ls' := [(4, ii 2), (3, ii v11), (0, .ref (ad 131)), (1, ii v6)]) rfl ?_
        refine z_loc [2, 3, 1, 0] (ls' := [(0, .ref (ad 131)), (1, ii v6), (3, ii v11), (4, ii 2)]) rfl ?_
        exact cut128 2 M29 hI hW hF (by omega) (by omega) (by omega) (by omega) hL hT (fun ht => by unfold tc4; rw [a3 ht]; exact yp30.2) (by omega) (((show dR M29 = dR M12 from dR_f (fun b => fp30.at (by decide))).trans (show dR M12 = dR M9 from dR_f (fun b => fp13.at (by decide)))).trans j98_7)
    refine z_aload_n F dX12_readTouch_25 rfl (q := 1) rfl ?_
    refine gf_X12_108 F hI gs_131 rfl bd_131_12 dX12_readTouch_26 (fun v32 ev32 av32 bv32 => ?_)
    refine z_if_ne (tgt := 87) F dX12_readTouch_29 (by decide +kernel) (by omega) (fun c33 => ?_) (fun c33 => ?_)
    · refine z_iconst F dX12_readTouch_87 ?_
      refine z_istore_n F dX12_readTouch_88 rfl (by decide) (ls' := [(2, ii 0), (1, ii v6), (0, .ref (ad 131))]) rfl ?_
      refine z_iload_n F dX12_readTouch_89 rfl (q := 0) rfl ?_
      refine z_if_eq (tgt := 98) F dX12_readTouch_90 (by decide +kernel) (by omega) (fun c34 => ?_) (fun c34 => by exfalso; omega)
      refine z_loc [2, 1] (ls' := [(0, .ref (ad 131)), (1, ii v6)]) rfl ?_
      have c9835 : Im (¬ M 131 10 = 3) (numB 0 (M 133 1 - 1) noB (absR M7) = tc3 (dR M) (absR M)) := fun ht => by
        unfold tc3
        rw [a1 ht, a2 ht]
        exact numB_v (fun g0 g1 q1 q2 => by exfalso; have f9 := (vR_fl M7).symm.trans g0; omega)
      exact cut98 M7 hI hW hF (by omega) (by omega) hL hT c9835 (fun ht q => (a2 ht).symm) (by omega) ((show dR M7 = dR M2 from dR_f (fun b => fp8.at (by decide))).trans (show dR M2 = dR M from dR_f (fun b => fp3.at (by decide))))
    · refine z_aload_n F dX12_readTouch_32 rfl (q := 1) rfl ?_
      refine gf_X12_88 F hI gs_131 rfl bd_131_10 dX12_readTouch_33 (fun v36 ev36 av36 bv36 => ?_)
      refine z_iconst F dX12_readTouch_36 ?_
      refine z_icmp_ne (tgt := 87) F dX12_readTouch_37 (by decide +kernel) (by omega) (by omega) (fun c37 => ?_) (fun c37 => ?_)
      · refine z_iconst F dX12_readTouch_87 ?_
        refine z_istore_n F dX12_readTouch_88 rfl (by decide) (ls' := [(2, ii 0), (1, ii v6), (0, .ref (ad 131))]) rfl ?_
        refine z_iload_n F dX12_readTouch_89 rfl (q := 0) rfl ?_
        refine z_if_eq (tgt := 98) F dX12_readTouch_90 (by decide +kernel) (by omega) (fun c38 => ?_) (fun c38 => by exfalso; omega)
        refine z_loc [2, 1] (ls' := [(0, .ref (ad 131)), (1, ii v6)]) rfl ?_
        have c9839 : Im (¬ M 131 10 = 3) (numB 0 (M 133 1 - 1) noB (absR M7) = tc3 (dR M) (absR M)) := fun ht => by
          unfold tc3
          rw [a1 ht, a2 ht]
          exact numB_v (fun g0 g1 q1 q2 => by exfalso; have f9 := (vR_fl M7).symm.trans g0; rw [(vR_tk f9).1] at g1; unfold tkR at g1; omega)
        exact cut98 M7 hI hW hF (by omega) (by omega) hL hT c9839 (fun ht q => (a2 ht).symm) (by omega) ((show dR M7 = dR M2 from dR_f (fun b => fp8.at (by decide))).trans (show dR M2 = dR M from dR_f (fun b => fp3.at (by decide))))
      · refine z_aload_n F dX12_readTouch_40 rfl (q := 1) rfl ?_
        refine gf_X12_102 F hI gs_131 rfl bd_131_11 dX12_readTouch_41 (fun v40 ev40 av40 bv40 => ?_)
        refine z_iload_n F dX12_readTouch_44 rfl (q := 0) rfl ?_
        refine z_icmp_eq (tgt := 83) F dX12_readTouch_45 (by decide +kernel) (by omega) (by omega) (fun c41 => ?_) (fun c41 => ?_)
        · refine z_iconst F dX12_readTouch_83 ?_
          refine z_goto (tgt := 88) F dX12_readTouch_84 (by decide +kernel) ?_
          refine z_istore_n F dX12_readTouch_88 rfl (by decide) (ls' := [(2, ii 1), (1, ii v6), (0, .ref (ad 131))]) rfl ?_
          refine z_iload_n F dX12_readTouch_89 rfl (q := 0) rfl ?_
          refine z_if_eq (tgt := 98) F dX12_readTouch_90 (by decide +kernel) (by omega) (fun c42 => by exfalso; omega) (fun c42 => ?_)
          refine z_aload_n F dX12_readTouch_93 rfl (q := 2) rfl ?_
          refine z_iconst F dX12_readTouch_94 ?_
          refine zv_v (rest := []) F (kp_X12_blames l M7 ⟨hI, hW⟩ 3 (by omega) (by omega)) cs_X12_133 (T := TX12) (N := 44) (ci := 12) rfl gs_131 (by decide) (by decide) rfl rfl rfl (Nat.le_of_ble_eq_true rfl) dX12_readTouch_95 (fun M43 hI p44 => ?_)
          obtain ⟨hI, hW⟩ := hI
          obtain ⟨fp44, xp44, yp44⟩ := p44
          have hF := hF.call fp44 (by decide)
          have tM43_133_6 : M43 133 6 = M7 133 6 := fp44.at (by decide)
          have tM43_133_1 : M43 133 1 = M7 133 1 := fp44.at (by decide)
          have tM43_133_2 : M43 133 2 = M7 133 2 := fp44.at (by decide)
          have tM43_133_4 : M43 133 4 = M7 133 4 := fp44.at (by decide)
          have tM43_133_3 : M43 133 3 = M7 133 3 := fp44.at (by decide)
          have hq9 := wl_fr fp44 (by decide)
          have hL := hq9.2 hL
          have cM43 := hq9.1
          clear hq9
          obtain ⟨qp44_0, qp44_1, qp44_2, qp44_3, qp44_4, qp44_5⟩ := xp44
          have kbM43 : 0 ≤ M43 131 12 ∧ M43 131 12 ≤ 4 := hI.at (show Bd 131 12 = (0, 4) from rfl)
          have hT := tk_eq hT qp44_2 qp44_3 qp44_4
          refine z_loc [2, 1] (ls' := [(0, .ref (ad 131)), (1, ii v6)]) rfl ?_
          have c9845 : Im (¬ M 131 10 = 3) (numB 0 (M 133 1 - 1) noB (absR M43) = tc3 (dR M) (absR M)) := fun ht => by
            have v9 : s_vl (absR M7) = M7 131 11 := by rw [(vR_tk (show M7 131 12 = 0 by omega)).2.2.2]; unfold vlR; rw [if_pos (by omega)]
            have p9 := yp8.2 (show M7 131 12 = 0 by omega)
            have k9 : 0 ≤ s_vl (tc1 (dR M) (absR M)) ∧ s_vl (tc1 (dR M) (absR M)) ≤ M 133 1 - 1 := (numB_ok (show s_fl (tc2 (dR M) (absR M)) = 0 from by rw [a2 ht]; exact ((vR_fl M7).trans (by omega)))).2
            rw [a1 ht] at k9
            rw [← yp44]
            unfold tc3
            rw [a1 ht, a2 ht]
            exact numB_b (bar := barA (d_a (dR M)) (s_vl (absR M2))) ((vR_fl M7).trans (by omega)) ((vR_tk (by omega)).1.trans (by unfold tkR; omega)) (fun q1 q2 => barA_t.mpr (Or.inl (by omega)))
          exact cut98 M43 hI hW hF (by omega) (by omega) hL hT c9845 (fun ht q => by exfalso; omega) (by omega) ((show dR M43 = dR M7 from dR_f (fun b => fp44.at (by decide))).trans ((show dR M7 = dR M2 from dR_f (fun b => fp8.at (by decide))).trans (show dR M2 = dR M from dR_f (fun b => fp3.at (by decide)))))
        · refine z_aload_n F dX12_readTouch_48 rfl (q := 1) rfl ?_
          refine gf_X12_102 F hI gs_131 rfl bd_131_11 dX12_readTouch_49 (fun v46 ev46 av46 bv46 => ?_)
          have zv46 : v40 = v46 := ev40.trans ev46.symm
          subst zv46
          refine z_i2l F dX12_readTouch_52 (by omega) ?_
          refine z_lconst (x := 0) F dX12_readTouch_53 (by decide +kernel) ?_
          refine z_ldc2 (x := 9) F dX12_readTouch_54 (gin lm_147 rfl) (by decide +kernel) ?_
          refine zs_i (rest := []) F (k_X12_within l M7 ⟨hI, hW⟩ v40 (by omega) (by omega) 0 (by omega) (by omega) 9 (by omega) (by omega)) cs_X12_137 (by decide) (by decide) rfl rfl rfl (Nat.le_of_ble_eq_true rfl) dX12_readTouch_57 (fun v47 M48 rv47 hI p49 => ?_)
          obtain ⟨hI, hW⟩ := hI
          obtain ⟨⟨av47, bv47⟩, rfl, xp49⟩ := p49
          refine z_if_eq (tgt := 87) F dX12_readTouch_60 (by decide +kernel) (by omega) (fun c50 => ?_) (fun c50 => ?_)
          · refine z_iconst F dX12_readTouch_87 ?_
            refine z_istore_n F dX12_readTouch_88 rfl (by decide) (ls' := [(2, ii 0), (1, ii v6), (0, .ref (ad 131))]) rfl ?_
            refine z_iload_n F dX12_readTouch_89 rfl (q := 0) rfl ?_
            refine z_if_eq (tgt := 98) F dX12_readTouch_90 (by decide +kernel) (by omega) (fun c51 => ?_) (fun c51 => by exfalso; omega)
            refine z_loc [2, 1] (ls' := [(0, .ref (ad 131)), (1, ii v6)]) rfl ?_
            have c9852 : Im (¬ M 131 10 = 3) (numB 0 (M 133 1 - 1) noB (absR M7) = tc3 (dR M) (absR M)) := fun ht => by
              unfold tc3
              rw [a1 ht, a2 ht]
              have v9 : s_vl (absR M7) = M7 131 11 := by rw [(vR_tk (show M7 131 12 = 0 by omega)).2.2.2]; unfold vlR; rw [if_pos (by omega)]
              exact numB_v (fun g0 g1 q1 q2 => by exfalso; omega)
            exact cut98 M7 hI hW hF (by omega) (by omega) hL hT c9852 (fun ht q => (a2 ht).symm) (by omega) ((show dR M7 = dR M2 from dR_f (fun b => fp8.at (by decide))).trans (show dR M2 = dR M from dR_f (fun b => fp3.at (by decide))))
          · refine z_aload_n F dX12_readTouch_63 rfl (q := 1) rfl ?_
            refine rf_X12_13 F gs_131 rfl dX12_readTouch_64 ?_
            refine z_bipush F dX12_readTouch_67 (by decide +kernel) ?_
            refine z_bipush F dX12_readTouch_69 (by decide +kernel) ?_
            refine z_iload_n F dX12_readTouch_71 rfl (q := 0) rfl ?_
            refine z_imul F dX12_readTouch_72 ?_
            refine z_iadd F dX12_readTouch_73 ?_
            refine z_aload_n F dX12_readTouch_74 rfl (q := 1) rfl ?_
            refine gf_X12_102 F hI gs_131 rfl bd_131_11 dX12_readTouch_75 (fun v53 ev53 av53 bv53 => ?_)
            have zv53 : v40 = v53 := ev40.trans ev53.symm
            subst zv53
            refine z_iadd F dX12_readTouch_78 ?_
            refine z_iald F hI gs_133 (by omega) (by omega) (by decide) (bd_133.trans (kn_touch (by omega) (by omega))) dX12_readTouch_79 (fun v54 (ev54 : v54 = M7 133 _) av54 bv54 => ?_)
            refine z_if_eq (tgt := 87) F dX12_readTouch_80 (by decide +kernel) (by omega) (fun c55 => ?_) (fun c55 => ?_)
            · refine z_iconst F dX12_readTouch_87 ?_
              refine z_istore_n F dX12_readTouch_88 rfl (by decide) (ls' := [(2, ii 0), (1, ii v6), (0, .ref (ad 131))]) rfl ?_
              refine z_iload_n F dX12_readTouch_89 rfl (q := 0) rfl ?_
              refine z_if_eq (tgt := 98) F dX12_readTouch_90 (by decide +kernel) (by omega) (fun c56 => ?_) (fun c56 => by exfalso; omega)
              refine z_loc [2, 1] (ls' := [(0, .ref (ad 131)), (1, ii v6)]) rfl ?_
              have c9857 : Im (¬ M 131 10 = 3) (numB 0 (M 133 1 - 1) noB (absR M7) = tc3 (dR M) (absR M)) := fun ht => by
                unfold tc3
                rw [a1 ht, a2 ht]
                have v9 : s_vl (absR M7) = M7 131 11 := by rw [(vR_tk (show M7 131 12 = 0 by omega)).2.2.2]; unfold vlR; rw [if_pos (by omega)]
                have p9 := yp8.2 (show M7 131 12 = 0 by omega)
                exact numB_v (fun g0 g1 q1 q2 => (barA_f (by omega) (show d_a (dR M) (s_vl (absR M2)).toNat (s_vl (absR M7)).toNat = false from Bool.eq_false_iff.mpr (fun hb => by have h9 := (aR_t.mp hb).2; rw [show 50 + 10 * (s_vl (absR M2)).toNat + (s_vl (absR M7)).toNat = (((50 + (10 * v6)) + v40)).toNat from by omega, ← (((fp8.at (by decide) : M7 133 (((50 + (10 * v6)) + v40)).toNat = _).trans (fp3.at (by decide) : M2 133 (((50 + (10 * v6)) + v40)).toNat = _)) : M7 133 (((50 + (10 * v6)) + v40)).toNat = M 133 (((50 + (10 * v6)) + v40)).toNat), ← ev54] at h9; omega))).symm)
              exact cut98 M7 hI hW hF (by omega) (by omega) hL hT c9857 (fun ht q => (a2 ht).symm) (by omega) ((show dR M7 = dR M2 from dR_f (fun b => fp8.at (by decide))).trans (show dR M2 = dR M from dR_f (fun b => fp3.at (by decide))))
            · refine z_iconst F dX12_readTouch_83 ?_
              refine z_goto (tgt := 88) F dX12_readTouch_84 (by decide +kernel) ?_
              refine z_istore_n F dX12_readTouch_88 rfl (by decide) (ls' := [(2, ii 1), (1, ii v6), (0, .ref (ad 131))]) rfl ?_
              refine z_iload_n F dX12_readTouch_89 rfl (q := 0) rfl ?_
              refine z_if_eq (tgt := 98) F dX12_readTouch_90 (by decide +kernel) (by omega) (fun c58 => by exfalso; omega) (fun c58 => ?_)
              refine z_aload_n F dX12_readTouch_93 rfl (q := 2) rfl ?_
              refine z_iconst F dX12_readTouch_94 ?_
              refine zv_v (rest := []) F (kp_X12_blames l M7 ⟨hI, hW⟩ 3 (by omega) (by omega)) cs_X12_133 (T := TX12) (N := 44) (ci := 12) rfl gs_131 (by decide) (by decide) rfl rfl rfl (Nat.le_of_ble_eq_true rfl) dX12_readTouch_95 (fun M59 hI p60 => ?_)
              obtain ⟨hI, hW⟩ := hI
              obtain ⟨fp60, xp60, yp60⟩ := p60
              have hF := hF.call fp60 (by decide)
              have tM59_133_6 : M59 133 6 = M7 133 6 := fp60.at (by decide)
              have tM59_133_1 : M59 133 1 = M7 133 1 := fp60.at (by decide)
              have tM59_133_2 : M59 133 2 = M7 133 2 := fp60.at (by decide)
              have tM59_133_4 : M59 133 4 = M7 133 4 := fp60.at (by decide)
              have tM59_133_3 : M59 133 3 = M7 133 3 := fp60.at (by decide)
              have hq9 := wl_fr fp60 (by decide)
              have hL := hq9.2 hL
              have cM59 := hq9.1
              clear hq9
              obtain ⟨qp60_0, qp60_1, qp60_2, qp60_3, qp60_4, qp60_5⟩ := xp60
              have kbM59 : 0 ≤ M59 131 12 ∧ M59 131 12 ≤ 4 := hI.at (show Bd 131 12 = (0, 4) from rfl)
              have hT := tk_eq hT qp60_2 qp60_3 qp60_4
              refine z_loc [2, 1] (ls' := [(0, .ref (ad 131)), (1, ii v6)]) rfl ?_
              have c9861 : Im (¬ M 131 10 = 3) (numB 0 (M 133 1 - 1) noB (absR M59) = tc3 (dR M) (absR M)) := fun ht => by
                have v9 : s_vl (absR M7) = M7 131 11 := by rw [(vR_tk (show M7 131 12 = 0 by omega)).2.2.2]; unfold vlR; rw [if_pos (by omega)]
                have p9 := yp8.2 (show M7 131 12 = 0 by omega)
                have k9 : 0 ≤ s_vl (tc1 (dR M) (absR M)) ∧ s_vl (tc1 (dR M) (absR M)) ≤ M 133 1 - 1 := (numB_ok (show s_fl (tc2 (dR M) (absR M)) = 0 from by rw [a2 ht]; exact ((vR_fl M7).trans (by omega)))).2
                rw [a1 ht] at k9
                rw [← yp60]
                unfold tc3
                rw [a1 ht, a2 ht]
                exact numB_b (bar := barA (d_a (dR M)) (s_vl (absR M2))) ((vR_fl M7).trans (by omega)) ((vR_tk (by omega)).1.trans (by unfold tkR; omega)) (fun q1 q2 => barA_t.mpr (Or.inr (show aR M _ _ = true from aR_t.mpr ⟨⟨by omega, by omega⟩, by rw [show 50 + 10 * (s_vl (absR M2)).toNat + (s_vl (absR M7)).toNat = (((50 + (10 * v6)) + v40)).toNat from by omega, ← (((fp8.at (by decide) : M7 133 (((50 + (10 * v6)) + v40)).toNat = _).trans (fp3.at (by decide) : M2 133 (((50 + (10 * v6)) + v40)).toNat = _)) : M7 133 (((50 + (10 * v6)) + v40)).toNat = M 133 (((50 + (10 * v6)) + v40)).toNat), ← ev54]; omega⟩)))
              exact cut98 M59 hI hW hF (by omega) (by omega) hL hT c9861 (fun ht q => by exfalso; omega) (by omega) ((show dR M59 = dR M7 from dR_f (fun b => fp60.at (by decide))).trans ((show dR M7 = dR M2 from dR_f (fun b => fp8.at (by decide))).trans (show dR M2 = dR M from dR_f (fun b => fp3.at (by decide)))))
  · exact hret _ 10 _ ⟨hI, hW⟩ ⟨hF, ⟨hL, by omega, by omega, by omega, by omega, by omega, by omega, by omega, hT, by omega, by omega, by omega⟩, (fun h0 ht => touch_1 (show tc1 (dR M) (absR M) = absR M2 from yp3 h0 ht (show M 133 3 ≤ 20 from (hI0.at (show Bd 133 3 = (0, 20) from rfl)).2)) (by rw [vR_fl]; omega))⟩ dX12_readTouch_10
set_option maxHeartbeats 4000000 in
set_option maxRecDepth 4000 in
theorem kp_X12_isWord_131_1061 (l : Launch) (M : Mem) (hJ : Iw M) (hp0 : 0 ≤ M 131 9 ∧ M 131 9 ≤ M 131 8 ∧ M 131 8 ≤ M 131 7 ∧ M 131 7 ≤ 900 ∧ (M 131 10 = 0 ∨ M 131 9 < M 131 8)) : CI l yX12_isWord cX12_isWord 4 (some .boolean) 5 (fun ad => [.ref (ad 131), .ref (ad 1061)]) M (fun z M' => (0 ≤ z ∧ z ≤ 1) ∧ M = M' ∧ (z = 1 → M 131 12 = 0 ∧ M 131 10 = 1) ∧ (WZ z (isW w_count (absR M)))) := by
  obtain ⟨hI, hW⟩ := hJ
  refine en_z (by decide +kernel) (fun ad => by exact Nat.le_of_ble_eq_true rfl) (fun D cy ad A p e s m args below meth c Q F hret => ?_)
  refine z_eq (ls' := [(0, .ref (ad 131)), (1, .ref (ad 1061))]) rfl rfl rfl ?_
  obtain ⟨u1, eu1⟩ : ∃ v : Int, v = M 131 7 := ⟨_, rfl⟩
  have ku1 : 0 ≤ u1 ∧ u1 ≤ 900 := by have := hI.at (show Bd 131 7 = (0, 900) from rfl); omega
  obtain ⟨u2, eu2⟩ : ∃ v : Int, v = M 131 8 := ⟨_, rfl⟩
  have ku2 : 0 ≤ u2 ∧ u2 ≤ 900 := by have := hI.at (show Bd 131 8 = (0, 900) from rfl); omega
  obtain ⟨u3, eu3⟩ : ∃ v : Int, v = M 131 9 := ⟨_, rfl⟩
  have ku3 : 0 ≤ u3 ∧ u3 ≤ 900 := by have := hI.at (show Bd 131 9 = (0, 900) from rfl); omega
  obtain ⟨u4, eu4⟩ : ∃ v : Int, v = M 131 10 := ⟨_, rfl⟩
  have ku4 : (-2147483648) ≤ u4 ∧ u4 ≤ 2147483647 := by have := hI.at (show Bd 131 10 = (-2147483648, 2147483647) from rfl); omega
  obtain ⟨u5, eu5⟩ : ∃ v : Int, v = M 131 12 := ⟨_, rfl⟩
  have ku5 : 0 ≤ u5 ∧ u5 ≤ 4 := by have := hI.at (show Bd 131 12 = (0, 4) from rfl); omega
  obtain ⟨u6, eu6⟩ : ∃ v : Int, v = M 131 16 := ⟨_, rfl⟩
  have ku6 : (-2147483648) ≤ u6 ∧ u6 ≤ 2147483647 := by have := hI.at (show Bd 131 16 = (-2147483648, 2147483647) from rfl); omega
  refine z_aload_n F dX12_isWord_0 rfl (q := 0) rfl ?_
  refine gf_X12_108 F hI gs_131 rfl bd_131_12 dX12_isWord_1 (fun v7 ev7 av7 bv7 => ?_)
  have zv7 : u5 = v7 := eu5.trans ev7.symm
  subst zv7
  refine z_if_ne (tgt := 35) F dX12_isWord_4 (by decide +kernel) (by omega) (fun c8 => ?_) (fun c8 => ?_)
  · refine z_iconst F dX12_isWord_35 ?_
    refine z_istore_n F dX12_isWord_36 rfl (by decide) (ls' := [(2, ii 0), (0, .ref (ad 131)), (1, .ref (ad 1061))]) rfl ?_
    refine z_iconst F dX12_isWord_37 ?_
    refine z_istore_n F dX12_isWord_38 rfl (by decide) (ls' := [(3, ii 0), (2, ii 0), (0, .ref (ad 131)), (1, .ref (ad 1061))]) rfl ?_
    refine z_loc [2, 3, 1, 0] (ls' := [(0, .ref (ad 131)), (1, .ref (ad 1061)), (2, ii 0), (3, ii 0)]) rfl ?_
    suffices key39 : ∀ (n : Nat) (y10 : Int) (y11 : Int), 0 ≤ y10 → y10 ≤ 0 → 0 ≤ y11 → y11 ≤ 0 → (y10 = 1 → M 131 12 = 0 ∧ M 131 10 = 1 ∧ M 131 8 - M 131 9 = 5) → (Iw_R M w_count y10 y11) → 0 < (n : Int) → Z D cy ad p l e (RMh 5) s m args below meth c A 4 0 0 Q 39 [(0, .ref (ad 131)), (1, .ref (ad 1061)), (2, ii y10), (3, ii y11)] [] M from key39 1 0 0 (by omega) (by omega) (by omega) (by omega) (by omega) (iwR_n (by rw [wl_count]; unfold tkR; omega)) (by omega)
    intro n39
    induction n39 with
    | zero => intro y10 y11 ay10 by10 ay11 by11 i39_0 i39_1 hn39; exfalso; omega
    | succ n39 ih39 =>
      intro y10 y11 ay10 by10 ay11 by11 i39_0 i39_1 hn39
      refine z_iload_n F dX12_isWord_39 rfl (q := 2) rfl ?_
      refine z_if_eq (tgt := 82) F dX12_isWord_40 (by decide +kernel) (by omega) (fun c12 => ?_) (fun c12 => by exfalso; omega)
      refine z_iload_n F dX12_isWord_82 rfl (q := 2) rfl ?_
      exact hret _ _ 83 _ ⟨by omega, by omega⟩ ⟨hI, hW⟩ ⟨⟨by omega, by omega⟩, rfl, (by omega), (iwR_e i39_1 (by rw [wl_count]; unfold tkR; omega) (by omega) (by omega))⟩ dX12_isWord_83
  · refine z_aload_n F dX12_isWord_7 rfl (q := 0) rfl ?_
    refine gf_X12_88 F hI gs_131 rfl bd_131_10 dX12_isWord_8 (fun v13 ev13 av13 bv13 => ?_)
    have zv13 : u4 = v13 := eu4.trans ev13.symm
    subst zv13
    refine z_iconst F dX12_isWord_11 ?_
    refine z_icmp_ne (tgt := 35) F dX12_isWord_12 (by decide +kernel) (by omega) (by omega) (fun c14 => ?_) (fun c14 => ?_)
    · refine z_iconst F dX12_isWord_35 ?_
      refine z_istore_n F dX12_isWord_36 rfl (by decide) (ls' := [(2, ii 0), (0, .ref (ad 131)), (1, .ref (ad 1061))]) rfl ?_
      refine z_iconst F dX12_isWord_37 ?_
      refine z_istore_n F dX12_isWord_38 rfl (by decide) (ls' := [(3, ii 0), (2, ii 0), (0, .ref (ad 131)), (1, .ref (ad 1061))]) rfl ?_
      refine z_loc [2, 3, 1, 0] (ls' := [(0, .ref (ad 131)), (1, .ref (ad 1061)), (2, ii 0), (3, ii 0)]) rfl ?_
      suffices key39 : ∀ (n : Nat) (y16 : Int) (y17 : Int), 0 ≤ y16 → y16 ≤ 0 → 0 ≤ y17 → y17 ≤ 0 → (y16 = 1 → M 131 12 = 0 ∧ M 131 10 = 1 ∧ M 131 8 - M 131 9 = 5) → (Iw_R M w_count y16 y17) → 0 < (n : Int) → Z D cy ad p l e (RMh 5) s m args below meth c A 4 0 0 Q 39 [(0, .ref (ad 131)), (1, .ref (ad 1061)), (2, ii y16), (3, ii y17)] [] M from key39 1 0 0 (by omega) (by omega) (by omega) (by omega) (by omega) (iwR_n (by rw [wl_count]; unfold tkR; omega)) (by omega)
      intro n39
      induction n39 with
      | zero => intro y16 y17 ay16 by16 ay17 by17 i39_0 i39_1 hn39; exfalso; omega
      | succ n39 ih39 =>
        intro y16 y17 ay16 by16 ay17 by17 i39_0 i39_1 hn39
        refine z_iload_n F dX12_isWord_39 rfl (q := 2) rfl ?_
        refine z_if_eq (tgt := 82) F dX12_isWord_40 (by decide +kernel) (by omega) (fun c18 => ?_) (fun c18 => by exfalso; omega)
        refine z_iload_n F dX12_isWord_82 rfl (q := 2) rfl ?_
        exact hret _ _ 83 _ ⟨by omega, by omega⟩ ⟨hI, hW⟩ ⟨⟨by omega, by omega⟩, rfl, (by omega), (iwR_e i39_1 (by rw [wl_count]; unfold tkR; omega) (by omega) (by omega))⟩ dX12_isWord_83
    · refine z_aload_n F dX12_isWord_15 rfl (q := 0) rfl ?_
      refine gf_X12_82 F hI gs_131 rfl bd_131_8 dX12_isWord_16 (fun v19 ev19 av19 bv19 => ?_)
      have zv19 : u2 = v19 := eu2.trans ev19.symm
      subst zv19
      refine z_aload_n F dX12_isWord_19 rfl (q := 0) rfl ?_
      refine gf_X12_85 F hI gs_131 rfl bd_131_9 dX12_isWord_20 (fun v20 ev20 av20 bv20 => ?_)
      have zv20 : u3 = v20 := eu3.trans ev20.symm
      subst zv20
      refine z_isub F dX12_isWord_23 ?_
      refine z_aload_n F dX12_isWord_24 rfl (q := 1) rfl ?_
      refine zvs_i (i := 61) (rest := [ii (u2 - u3)]) F (kS_len l M ⟨hI, hW⟩ 61 (by decide)) cs_X12_114 (by decide) (by decide) (by decide) rfl rfl rfl (Nat.le_of_ble_eq_true rfl) dX12_isWord_25 (fun v21 M9 rv21 hI9 pv21 => ?_)
      obtain ⟨ev21, rfl⟩ := pv21
      obtain rfl : v21 = 5 := ev21.trans (show ((sbyt.getD 61 []).length : Int) = 5 from by decide)
      clear hI9
      refine z_icmp_ne (tgt := 35) F dX12_isWord_28 (by decide +kernel) (by omega) (by omega) (fun c22 => ?_) (fun c22 => ?_)
      · refine z_iconst F dX12_isWord_35 ?_
        refine z_istore_n F dX12_isWord_36 rfl (by decide) (ls' := [(2, ii 0), (0, .ref (ad 131)), (1, .ref (ad 1061))]) rfl ?_
        refine z_iconst F dX12_isWord_37 ?_
        refine z_istore_n F dX12_isWord_38 rfl (by decide) (ls' := [(3, ii 0), (2, ii 0), (0, .ref (ad 131)), (1, .ref (ad 1061))]) rfl ?_
        refine z_loc [2, 3, 1, 0] (ls' := [(0, .ref (ad 131)), (1, .ref (ad 1061)), (2, ii 0), (3, ii 0)]) rfl ?_
        suffices key39 : ∀ (n : Nat) (y24 : Int) (y25 : Int), 0 ≤ y24 → y24 ≤ 0 → 0 ≤ y25 → y25 ≤ 0 → (y24 = 1 → M 131 12 = 0 ∧ M 131 10 = 1 ∧ M 131 8 - M 131 9 = 5) → (Iw_R M w_count y24 y25) → 0 < (n : Int) → Z D cy ad p l e (RMh 5) s m args below meth c A 4 0 0 Q 39 [(0, .ref (ad 131)), (1, .ref (ad 1061)), (2, ii y24), (3, ii y25)] [] M from key39 1 0 0 (by omega) (by omega) (by omega) (by omega) (by omega) (iwR_n (by rw [wl_count]; unfold tkR; omega)) (by omega)
        intro n39
        induction n39 with
        | zero => intro y24 y25 ay24 by24 ay25 by25 i39_0 i39_1 hn39; exfalso; omega
        | succ n39 ih39 =>
          intro y24 y25 ay24 by24 ay25 by25 i39_0 i39_1 hn39
          refine z_iload_n F dX12_isWord_39 rfl (q := 2) rfl ?_
          refine z_if_eq (tgt := 82) F dX12_isWord_40 (by decide +kernel) (by omega) (fun c26 => ?_) (fun c26 => by exfalso; omega)
          refine z_iload_n F dX12_isWord_82 rfl (q := 2) rfl ?_
          exact hret _ _ 83 _ ⟨by omega, by omega⟩ ⟨hI, hW⟩ ⟨⟨by omega, by omega⟩, rfl, (by omega), (iwR_e i39_1 (by rw [wl_count]; unfold tkR; omega) (by omega) (by omega))⟩ dX12_isWord_83
      · refine z_iconst F dX12_isWord_31 ?_
        refine z_goto (tgt := 36) F dX12_isWord_32 (by decide +kernel) ?_
        refine z_istore_n F dX12_isWord_36 rfl (by decide) (ls' := [(2, ii 1), (0, .ref (ad 131)), (1, .ref (ad 1061))]) rfl ?_
        refine z_iconst F dX12_isWord_37 ?_
        refine z_istore_n F dX12_isWord_38 rfl (by decide) (ls' := [(3, ii 0), (2, ii 1), (0, .ref (ad 131)), (1, .ref (ad 1061))]) rfl ?_
        refine z_loc [2, 3, 1, 0] (ls' := [(0, .ref (ad 131)), (1, .ref (ad 1061)), (2, ii 1), (3, ii 0)]) rfl ?_
        suffices key39 : ∀ (n : Nat) (y28 : Int) (y29 : Int), 0 ≤ y28 → y28 ≤ 1 → 0 ≤ y29 → y29 ≤ 5 → (y28 = 1 → M 131 12 = 0 ∧ M 131 10 = 1 ∧ M 131 8 - M 131 9 = 5) → (Iw_R M w_count y28 y29) → 5 - y29 < (n : Int) → Z D cy ad p l e (RMh 5) s m args below meth c A 4 0 0 Q 39 [(0, .ref (ad 131)), (1, .ref (ad 1061)), (2, ii y28), (3, ii y29)] [] M from key39 6 1 0 (by omega) (by omega) (by omega) (by omega) (by omega) iwR_0 (by omega)
        intro n39
        induction n39 with
        | zero => intro y28 y29 ay28 by28 ay29 by29 i39_0 i39_1 hn39; exfalso; omega
        | succ n39 ih39 =>
          intro y28 y29 ay28 by28 ay29 by29 i39_0 i39_1 hn39
          refine z_iload_n F dX12_isWord_39 rfl (q := 2) rfl ?_
          refine z_if_eq (tgt := 82) F dX12_isWord_40 (by decide +kernel) (by omega) (fun c30 => ?_) (fun c30 => ?_)
          · refine z_iload_n F dX12_isWord_82 rfl (q := 2) rfl ?_
            exact hret _ _ 83 _ ⟨by omega, by omega⟩ ⟨hI, hW⟩ ⟨⟨by omega, by omega⟩, rfl, (by omega), (iwR_e i39_1 (by rw [wl_count]; unfold tkR; omega) (by omega) (by omega))⟩ dX12_isWord_83
          · refine z_iload_n F dX12_isWord_43 rfl (q := 3) rfl ?_
            refine z_aload_n F dX12_isWord_44 rfl (q := 1) rfl ?_
            refine zvs_i (i := 61) (rest := [ii y29]) F (kS_len l M ⟨hI, hW⟩ 61 (by decide)) cs_X12_114 (by decide) (by decide) (by decide) rfl rfl rfl (Nat.le_of_ble_eq_true rfl) dX12_isWord_45 (fun v31 M9 rv31 hI9 pv31 => ?_)
            obtain ⟨ev31, rfl⟩ := pv31
            obtain rfl : v31 = 5 := ev31.trans (show ((sbyt.getD 61 []).length : Int) = 5 from by decide)
            clear hI9
            refine z_icmp_ge (tgt := 82) F dX12_isWord_48 (by decide +kernel) (by omega) (by omega) (fun c32 => ?_) (fun c32 => ?_)
            · refine z_iload_n F dX12_isWord_82 rfl (q := 2) rfl ?_
              exact hret _ _ 83 _ ⟨by omega, by omega⟩ ⟨hI, hW⟩ ⟨⟨by omega, by omega⟩, rfl, (by omega), (iwR_e i39_1 (by rw [wl_count]; unfold tkR; omega) (by omega) (by omega))⟩ dX12_isWord_83
            · refine z_aload_n F dX12_isWord_51 rfl (q := 0) rfl ?_
              refine rf_X12_23 F gs_131 rfl dX12_isWord_52 ?_
              refine z_aload_n F dX12_isWord_55 rfl (q := 0) rfl ?_
              refine gf_X12_85 F hI gs_131 rfl bd_131_9 dX12_isWord_56 (fun v33 ev33 av33 bv33 => ?_)
              have zv33 : u3 = v33 := eu3.trans ev33.symm
              subst zv33
              refine z_iload_n F dX12_isWord_59 rfl (q := 3) rfl ?_
              refine z_iadd F dX12_isWord_60 ?_
              have k34 : 0 ≤ (u3 + y29) ∧ (u3 + y29) ≤ 899 := by omega
              refine z_iald F hI gs_136 (by omega) (by omega) (by decide) bd_136 dX12_isWord_61 (fun v35 (ev35 : v35 = M 136 _) av35 bv35 => ?_)
              refine z_aload_n F dX12_isWord_62 rfl (q := 1) rfl ?_
              refine z_iload_n F dX12_isWord_63 rfl (q := 3) rfl ?_
              refine zvs_i (i := 61) (rest := [ii v35]) F (kS_chr l M ⟨hI, hW⟩ 61 (by decide) y29 (by omega) (show y29 < ((sbyt.getD 61 []).length : Int) from by rw [show ((sbyt.getD 61 []).length : Int) = 5 from by decide]; omega)) cs_X12_119 (by decide) (by decide) (by decide) rfl rfl rfl (Nat.le_of_ble_eq_true rfl) dX12_isWord_64 (fun v36 M9 rv36 hI9 pv36 => ?_)
              obtain ⟨⟨av36, bv36, ev36⟩, rfl⟩ := pv36
              clear hI9
              refine z_icmp_ne (tgt := 74) F dX12_isWord_67 (by decide +kernel) (by omega) (by omega) (fun c37 => ?_) (fun c37 => ?_)
              · refine z_iconst F dX12_isWord_74 ?_
                refine z_istore_n F dX12_isWord_75 rfl (by decide) (ls' := [(2, ii 0), (0, .ref (ad 131)), (1, .ref (ad 1061)), (3, ii y29)]) rfl ?_
                refine z_iincN F dX12_isWord_76 (q := 3) rfl (by decide) (fun v38 ev38 => ?_)
                refine z_eq (ls' := [(3, ii v38), (2, ii 0), (0, .ref (ad 131)), (1, .ref (ad 1061))]) rfl rfl rfl ?_
                refine z_goto (tgt := 39) F dX12_isWord_79 (by decide +kernel) ?_
                refine z_loc [2, 3, 1, 0] (ls' := [(0, .ref (ad 131)), (1, .ref (ad 1061)), (2, ii 0), (3, ii v38)]) rfl ?_
                exact ih39 0 v38 (by omega) (by omega) (by omega) (by omega) (by omega) (by rw [show v38 = y29 + 1 from by omega]; exact iwR_s i39_1 (by omega) (by omega) (by rw [wl_count]; omega) (by rw [wl_count]; omega) (show v35 = bR M ((M 131 9).toNat + (y29).toNat) from by show v35 = M 136 _; rw [show (M 131 9).toNat + (y29).toNat = ((u3 + y29)).toNat from by omega]; exact ev35) (ev36.trans (sw_61 (y29).toNat (by omega)).1) (by omega)) (by omega)
              · refine z_iconst F dX12_isWord_70 ?_
                refine z_goto (tgt := 75) F dX12_isWord_71 (by decide +kernel) ?_
                refine z_istore_n F dX12_isWord_75 rfl (by decide) (ls' := [(2, ii 1), (0, .ref (ad 131)), (1, .ref (ad 1061)), (3, ii y29)]) rfl ?_
                refine z_iincN F dX12_isWord_76 (q := 3) rfl (by decide) (fun v39 ev39 => ?_)
                refine z_eq (ls' := [(3, ii v39), (2, ii 1), (0, .ref (ad 131)), (1, .ref (ad 1061))]) rfl rfl rfl ?_
                refine z_goto (tgt := 39) F dX12_isWord_79 (by decide +kernel) ?_
                refine z_loc [2, 3, 1, 0] (ls' := [(0, .ref (ad 131)), (1, .ref (ad 1061)), (2, ii 1), (3, ii v39)]) rfl ?_
                exact ih39 1 v39 (by omega) (by omega) (by omega) (by omega) (by omega) (by rw [show v39 = y29 + 1 from by omega]; exact iwR_s i39_1 (by omega) (by omega) (by rw [wl_count]; omega) (by rw [wl_count]; omega) (show v35 = bR M ((M 131 9).toNat + (y29).toNat) from by show v35 = M 136 _; rw [show (M 131 9).toNat + (y29).toNat = ((u3 + y29)).toNat from by omega]; exact ev35) (ev36.trans (sw_61 (y29).toNat (by omega)).1) (by omega)) (by omega)
set_option maxHeartbeats 4000000 in
set_option maxRecDepth 4000 in
theorem kp_X12_took_131_1061 (l : Launch) (M : Mem) (hJ : Iw M) (hp0 : 0 ≤ M 131 9 ∧ M 131 9 ≤ M 131 8 ∧ M 131 8 ≤ M 131 7 ∧ M 131 7 ≤ 900 ∧ (M 131 10 = 0 ∨ M 131 9 < M 131 8)) : CI l yX12_took cX12_took 3 (some .boolean) 6 (fun ad => [.ref (ad 131), .ref (ad 1061)]) M (fun z M' => (0 ≤ z ∧ z ≤ 1) ∧ Fr [131] M M' ∧ (M' 131 7 = M 131 7 ∧ M' 131 16 = M 131 16 ∧ M 131 9 ≤ M' 131 9 ∧ 0 ≤ M' 131 9 ∧ M' 131 9 ≤ M' 131 8 ∧ M' 131 8 ≤ M' 131 7 ∧ M' 131 7 ≤ 900 ∧ (M' 131 10 = 0 ∨ M' 131 9 < M' 131 8) ∧ M' 131 12 = M 131 12 ∧ (z = 1 → M 131 12 = 0 ∧ M 131 9 < M' 131 9)) ∧ (WZ z (isW w_count (absR M)) ∧ tookW w_count (absR M) = absR M')) := by
  obtain ⟨hI, hW⟩ := hJ
  have hF : Fr [131] M M := Fr.rf
  refine en_z (by decide +kernel) (fun ad => by exact Nat.le_of_ble_eq_true rfl) (fun D cy ad A p e s m args below meth c Q F hret => ?_)
  refine z_eq (ls' := [(0, .ref (ad 131)), (1, .ref (ad 1061))]) rfl rfl rfl ?_
  refine z_aload_n F dX12_took_0 rfl (q := 0) rfl ?_
  refine z_aload_n F dX12_took_1 rfl (q := 1) rfl ?_
  refine zv_i (rest := []) F (kp_X12_isWord_131_1061 l M ⟨hI, hW⟩ (by omega)) cs_X12_123 (T := TX12) (N := 44) (ci := 12) rfl gs_131 (by decide) (by decide) rfl rfl rfl (Nat.le_of_ble_eq_true rfl) dX12_took_2 (fun v1 M2 rv1 hI p3 => ?_)
  obtain ⟨hI, hW⟩ := hI
  obtain ⟨⟨av1, bv1⟩, rfl, xp3, yp3⟩ := p3
  refine z_istore_n F dX12_took_5 rfl (by decide) (ls' := [(2, ii v1), (0, .ref (ad 131)), (1, .ref (ad 1061))]) rfl ?_
  refine z_iload_n F dX12_took_6 rfl (q := 0) rfl ?_
  refine z_if_eq (tgt := 14) F dX12_took_7 (by decide +kernel) (by omega) (fun c4 => ?_) (fun c4 => ?_)
  · refine z_iload_n F dX12_took_14 rfl (q := 0) rfl ?_
    exact hret _ _ 15 _ ⟨by omega, by omega⟩ ⟨hI, hW⟩ ⟨⟨by omega, by omega⟩, hF, (by omega), ⟨yp3, took_f (wz_f yp3 (by omega))⟩⟩ dX12_took_15
  · refine z_aload_n F dX12_took_10 rfl (q := 1) rfl ?_
    refine zv_v (rest := []) F (kp_X12_readsOn l M ⟨hI, hW⟩ (by omega)) cs_X12_127 (T := TX12) (N := 44) (ci := 12) rfl gs_131 (by decide) (by decide) rfl rfl rfl (Nat.le_of_ble_eq_true rfl) dX12_took_11 (fun M5 hI p6 => ?_)
    obtain ⟨hI, hW⟩ := hI
    obtain ⟨fp6, xp6, yp6⟩ := p6
    have hF := hF.call fp6 (by decide)
    have tM5_133_6 : M5 133 6 = M 133 6 := fp6.at (by decide)
    have tM5_133_1 : M5 133 1 = M 133 1 := fp6.at (by decide)
    refine z_iload_n F dX12_took_14 rfl (q := 0) rfl ?_
    exact hret _ _ 15 _ ⟨by omega, by omega⟩ ⟨hI, hW⟩ ⟨⟨by omega, by omega⟩, hF, (by omega), ⟨yp3, took_t (wz_t yp3 (by omega)) (yp6 (by omega))⟩⟩ dX12_took_15
set_option maxHeartbeats 4000000 in
set_option maxRecDepth 4000 in
theorem kp_X12_mustWord_131_1061 (l : Launch) (M : Mem) (hJ : Iw M) (hp0 : 0 ≤ M 131 9 ∧ M 131 9 ≤ M 131 8 ∧ M 131 8 ≤ M 131 7 ∧ M 131 7 ≤ 900 ∧ (M 131 10 = 0 ∨ M 131 9 < M 131 8)) : CV l yX12_mustWord cX12_mustWord 2 none 7 (fun ad => [.ref (ad 131), .ref (ad 1061)]) M (fun M' => Fr [131] M M' ∧ (M' 131 7 = M 131 7 ∧ M' 131 16 = M 131 16 ∧ M 131 9 ≤ M' 131 9 ∧ 0 ≤ M' 131 9 ∧ M' 131 9 ≤ M' 131 8 ∧ M' 131 8 ≤ M' 131 7 ∧ M' 131 7 ≤ 900 ∧ (M' 131 10 = 0 ∨ M' 131 9 < M' 131 8) ∧ (M' 131 12 = 0 → M 131 12 = 0)) ∧ (mustW w_count (absR M) = absR M')) := by
  obtain ⟨hI, hW⟩ := hJ
  have hF : Fr [131] M M := Fr.rf
  refine en_v (by decide +kernel) (fun ad => by exact Nat.le_of_ble_eq_true rfl) (fun D cy ad A p e s m args below meth c Q F hret => ?_)
  refine z_eq (ls' := [(0, .ref (ad 131)), (1, .ref (ad 1061))]) rfl rfl rfl ?_
  refine z_aload_n F dX12_mustWord_0 rfl (q := 0) rfl ?_
  refine z_aload_n F dX12_mustWord_1 rfl (q := 1) rfl ?_
  refine zv_i (rest := []) F (kp_X12_took_131_1061 l M ⟨hI, hW⟩ (by omega)) cs_X12_130 (T := TX12) (N := 44) (ci := 12) rfl gs_131 (by decide) (by decide) rfl rfl rfl (Nat.le_of_ble_eq_true rfl) dX12_mustWord_2 (fun v1 M2 rv1 hI p3 => ?_)
  obtain ⟨hI, hW⟩ := hI
  obtain ⟨⟨av1, bv1⟩, fp3, xp3, yp3⟩ := p3
  have hF := hF.call fp3 (by decide)
  have tM2_133_6 : M2 133 6 = M 133 6 := fp3.at (by decide)
  have tM2_133_1 : M2 133 1 = M 133 1 := fp3.at (by decide)
  refine z_if_ne (tgt := 13) F dX12_mustWord_5 (by decide +kernel) (by omega) (fun c4 => ?_) (fun c4 => ?_)
  · exact hret _ 13 _ ⟨hI, hW⟩ ⟨hF, (by omega), (must_t (wz_t yp3.1 (by omega)) (took_a (wz_t yp3.1 (by omega)) yp3.2))⟩ dX12_mustWord_13
  · refine z_aload_n F dX12_mustWord_8 rfl (q := 0) rfl ?_
    refine z_iconst F dX12_mustWord_9 ?_
    refine zv_v (rest := []) F (kp_X12_blames l M2 ⟨hI, hW⟩ 2 (by omega) (by omega)) cs_X12_133 (T := TX12) (N := 44) (ci := 12) rfl gs_131 (by decide) (by decide) rfl rfl rfl (Nat.le_of_ble_eq_true rfl) dX12_mustWord_10 (fun M5 hI p6 => ?_)
    obtain ⟨hI, hW⟩ := hI
    obtain ⟨fp6, xp6, yp6⟩ := p6
    have hF := hF.call fp6 (by decide)
    have tM5_133_6 : M5 133 6 = M2 133 6 := fp6.at (by decide)
    have tM5_133_1 : M5 133 1 = M2 133 1 := fp6.at (by decide)
    exact hret _ 13 _ ⟨hI, hW⟩ ⟨hF, (by omega), (must_f (wz_f yp3.1 (by omega)) ((congrArg (blame 2) (took_e (wz_f yp3.1 (by omega)) yp3.2).symm).trans yp6))⟩ dX12_mustWord_13
