theorem dX12_readEvent_0 : decode cX12_readEvent 0 = .ok (.aload_n 0, 1) := by decide +kernel
theorem dX12_readEvent_1 : decode cX12_readEvent 1 = .ok (.iconst 4, 1) := by decide +kernel
theorem dX12_readEvent_10 : decode cX12_readEvent 10 = .ok (.return_, 1) := by decide +kernel
theorem dX12_readEvent_101 : decode cX12_readEvent 101 = .ok (.iconst 4, 1) := by decide +kernel
theorem dX12_readEvent_102 : decode cX12_readEvent 102 = .ok (.iaload, 1) := by decide +kernel
theorem dX12_readEvent_103 : decode cX12_readEvent 103 = .ok (.imul, 1) := by decide +kernel
theorem dX12_readEvent_104 : decode cX12_readEvent 104 = .ok (.iadd, 1) := by decide +kernel
theorem dX12_readEvent_105 : decode cX12_readEvent 105 = .ok (.istore 5, 2) := by decide +kernel
theorem dX12_readEvent_107 : decode cX12_readEvent 107 = .ok (.aload_n 0, 1) := by decide +kernel
theorem dX12_readEvent_108 : decode cX12_readEvent 108 = .ok (.getfield 13, 3) := by decide +kernel
theorem dX12_readEvent_11 : decode cX12_readEvent 11 = .ok (.aload_n 0, 1) := by decide +kernel
theorem dX12_readEvent_111 : decode cX12_readEvent 111 = .ok (.iload 5, 2) := by decide +kernel
theorem dX12_readEvent_113 : decode cX12_readEvent 113 = .ok (.iload_n 1, 1) := by decide +kernel
theorem dX12_readEvent_114 : decode cX12_readEvent 114 = .ok (.iastore, 1) := by decide +kernel
theorem dX12_readEvent_115 : decode cX12_readEvent 115 = .ok (.aload_n 0, 1) := by decide +kernel
theorem dX12_readEvent_116 : decode cX12_readEvent 116 = .ok (.getfield 13, 3) := by decide +kernel
theorem dX12_readEvent_119 : decode cX12_readEvent 119 = .ok (.iload 5, 2) := by decide +kernel
theorem dX12_readEvent_12 : decode cX12_readEvent 12 = .ok (.iconst 0, 1) := by decide +kernel
theorem dX12_readEvent_121 : decode cX12_readEvent 121 = .ok (.iconst 1, 1) := by decide +kernel
theorem dX12_readEvent_122 : decode cX12_readEvent 122 = .ok (.iadd, 1) := by decide +kernel
theorem dX12_readEvent_123 : decode cX12_readEvent 123 = .ok (.iload_n 2, 1) := by decide +kernel
theorem dX12_readEvent_124 : decode cX12_readEvent 124 = .ok (.iastore, 1) := by decide +kernel
theorem dX12_readEvent_125 : decode cX12_readEvent 125 = .ok (.aload_n 0, 1) := by decide +kernel
theorem dX12_readEvent_126 : decode cX12_readEvent 126 = .ok (.getfield 13, 3) := by decide +kernel
theorem dX12_readEvent_129 : decode cX12_readEvent 129 = .ok (.iload 5, 2) := by decide +kernel
theorem dX12_readEvent_13 : decode cX12_readEvent 13 = .ok (.sipush 999, 3) := by decide +kernel
theorem dX12_readEvent_131 : decode cX12_readEvent 131 = .ok (.iconst 2, 1) := by decide +kernel
theorem dX12_readEvent_132 : decode cX12_readEvent 132 = .ok (.iadd, 1) := by decide +kernel
theorem dX12_readEvent_133 : decode cX12_readEvent 133 = .ok (.iload_n 3, 1) := by decide +kernel
theorem dX12_readEvent_134 : decode cX12_readEvent 134 = .ok (.ifCond .eq 9, 3) := by decide +kernel
theorem dX12_readEvent_137 : decode cX12_readEvent 137 = .ok (.iload 4, 2) := by decide +kernel
theorem dX12_readEvent_139 : decode cX12_readEvent 139 = .ok (.ineg, 1) := by decide +kernel
theorem dX12_readEvent_140 : decode cX12_readEvent 140 = .ok (.goto 5, 3) := by decide +kernel
theorem dX12_readEvent_143 : decode cX12_readEvent 143 = .ok (.iload 4, 2) := by decide +kernel
theorem dX12_readEvent_145 : decode cX12_readEvent 145 = .ok (.iastore, 1) := by decide +kernel
theorem dX12_readEvent_146 : decode cX12_readEvent 146 = .ok (.aload_n 0, 1) := by decide +kernel
theorem dX12_readEvent_147 : decode cX12_readEvent 147 = .ok (.getfield 13, 3) := by decide +kernel
theorem dX12_readEvent_150 : decode cX12_readEvent 150 = .ok (.iconst 4, 1) := by decide +kernel
theorem dX12_readEvent_151 : decode cX12_readEvent 151 = .ok (.dup2, 1) := by decide +kernel
theorem dX12_readEvent_152 : decode cX12_readEvent 152 = .ok (.iaload, 1) := by decide +kernel
theorem dX12_readEvent_153 : decode cX12_readEvent 153 = .ok (.iconst 1, 1) := by decide +kernel
theorem dX12_readEvent_154 : decode cX12_readEvent 154 = .ok (.iadd, 1) := by decide +kernel
theorem dX12_readEvent_155 : decode cX12_readEvent 155 = .ok (.iastore, 1) := by decide +kernel
theorem dX12_readEvent_156 : decode cX12_readEvent 156 = .ok (.return_, 1) := by decide +kernel
theorem dX12_readEvent_16 : decode cX12_readEvent 16 = .ok (.invokevirtual 199, 3) := by decide +kernel
theorem dX12_readEvent_19 : decode cX12_readEvent 19 = .ok (.istore_n 1, 1) := by decide +kernel
theorem dX12_readEvent_2 : decode cX12_readEvent 2 = .ok (.bipush 6, 2) := by decide +kernel
theorem dX12_readEvent_20 : decode cX12_readEvent 20 = .ok (.aload_n 0, 1) := by decide +kernel
theorem dX12_readEvent_21 : decode cX12_readEvent 21 = .ok (.ldc 225, 2) := by decide +kernel
theorem dX12_readEvent_23 : decode cX12_readEvent 23 = .ok (.invokevirtual 215, 3) := by decide +kernel
theorem dX12_readEvent_26 : decode cX12_readEvent 26 = .ok (.aload_n 0, 1) := by decide +kernel
theorem dX12_readEvent_27 : decode cX12_readEvent 27 = .ok (.iconst 0, 1) := by decide +kernel
theorem dX12_readEvent_28 : decode cX12_readEvent 28 = .ok (.aload_n 0, 1) := by decide +kernel
theorem dX12_readEvent_29 : decode cX12_readEvent 29 = .ok (.getfield 13, 3) := by decide +kernel
theorem dX12_readEvent_32 : decode cX12_readEvent 32 = .ok (.iconst 2, 1) := by decide +kernel
theorem dX12_readEvent_33 : decode cX12_readEvent 33 = .ok (.iaload, 1) := by decide +kernel
theorem dX12_readEvent_34 : decode cX12_readEvent 34 = .ok (.iconst 1, 1) := by decide +kernel
theorem dX12_readEvent_35 : decode cX12_readEvent 35 = .ok (.isub, 1) := by decide +kernel
theorem dX12_readEvent_36 : decode cX12_readEvent 36 = .ok (.invokevirtual 199, 3) := by decide +kernel
theorem dX12_readEvent_39 : decode cX12_readEvent 39 = .ok (.istore_n 2, 1) := by decide +kernel
theorem dX12_readEvent_4 : decode cX12_readEvent 4 = .ok (.invokevirtual 203, 3) := by decide +kernel
theorem dX12_readEvent_40 : decode cX12_readEvent 40 = .ok (.aload_n 0, 1) := by decide +kernel
theorem dX12_readEvent_41 : decode cX12_readEvent 41 = .ok (.ldc 227, 2) := by decide +kernel
theorem dX12_readEvent_43 : decode cX12_readEvent 43 = .ok (.invokevirtual 123, 3) := by decide +kernel
theorem dX12_readEvent_46 : decode cX12_readEvent 46 = .ok (.istore_n 3, 1) := by decide +kernel
theorem dX12_readEvent_47 : decode cX12_readEvent 47 = .ok (.iload_n 3, 1) := by decide +kernel
theorem dX12_readEvent_48 : decode cX12_readEvent 48 = .ok (.ifCond .ne 17, 3) := by decide +kernel
theorem dX12_readEvent_51 : decode cX12_readEvent 51 = .ok (.aload_n 0, 1) := by decide +kernel
theorem dX12_readEvent_52 : decode cX12_readEvent 52 = .ok (.ldc 229, 2) := by decide +kernel
theorem dX12_readEvent_54 : decode cX12_readEvent 54 = .ok (.invokevirtual 123, 3) := by decide +kernel
theorem dX12_readEvent_57 : decode cX12_readEvent 57 = .ok (.ifCond .ne 8, 3) := by decide +kernel
theorem dX12_readEvent_60 : decode cX12_readEvent 60 = .ok (.aload_n 0, 1) := by decide +kernel
theorem dX12_readEvent_61 : decode cX12_readEvent 61 = .ok (.iconst 2, 1) := by decide +kernel
theorem dX12_readEvent_62 : decode cX12_readEvent 62 = .ok (.invokevirtual 133, 3) := by decide +kernel
theorem dX12_readEvent_65 : decode cX12_readEvent 65 = .ok (.aload_n 0, 1) := by decide +kernel
theorem dX12_readEvent_66 : decode cX12_readEvent 66 = .ok (.getfield 108, 3) := by decide +kernel
theorem dX12_readEvent_69 : decode cX12_readEvent 69 = .ok (.ifCond .ne 7, 3) := by decide +kernel
theorem dX12_readEvent_7 : decode cX12_readEvent 7 = .ok (.ifCond .ne 4, 3) := by decide +kernel
theorem dX12_readEvent_72 : decode cX12_readEvent 72 = .ok (.aload_n 0, 1) := by decide +kernel
theorem dX12_readEvent_73 : decode cX12_readEvent 73 = .ok (.invokevirtual 127, 3) := by decide +kernel
theorem dX12_readEvent_76 : decode cX12_readEvent 76 = .ok (.aload_n 0, 1) := by decide +kernel
theorem dX12_readEvent_77 : decode cX12_readEvent 77 = .ok (.iconst 1, 1) := by decide +kernel
theorem dX12_readEvent_78 : decode cX12_readEvent 78 = .ok (.bipush 9, 2) := by decide +kernel
theorem dX12_readEvent_80 : decode cX12_readEvent 80 = .ok (.invokevirtual 199, 3) := by decide +kernel
theorem dX12_readEvent_83 : decode cX12_readEvent 83 = .ok (.istore 4, 2) := by decide +kernel
theorem dX12_readEvent_85 : decode cX12_readEvent 85 = .ok (.aload_n 0, 1) := by decide +kernel
theorem dX12_readEvent_86 : decode cX12_readEvent 86 = .ok (.getfield 108, 3) := by decide +kernel
theorem dX12_readEvent_89 : decode cX12_readEvent 89 = .ok (.ifCond .eq 4, 3) := by decide +kernel
theorem dX12_readEvent_92 : decode cX12_readEvent 92 = .ok (.return_, 1) := by decide +kernel
theorem dX12_readEvent_93 : decode cX12_readEvent 93 = .ok (.sipush 150, 3) := by decide +kernel
theorem dX12_readEvent_96 : decode cX12_readEvent 96 = .ok (.iconst 3, 1) := by decide +kernel
theorem dX12_readEvent_97 : decode cX12_readEvent 97 = .ok (.aload_n 0, 1) := by decide +kernel
theorem dX12_readEvent_98 : decode cX12_readEvent 98 = .ok (.getfield 13, 3) := by decide +kernel
set_option maxHeartbeats 4000000 in
set_option maxRecDepth 4000 in
theorem kp_X12_readEvent (l : Launch) (M : Mem) (hJ : Iw M) (hp0 : 0 ≤ M 131 9 ∧ M 131 9 ≤ M 131 8 ∧ M 131 8 ≤ M 131 7 ∧ M 131 7 ≤ 900 ∧ (M 131 10 = 0 ∨ M 131 9 < M 131 8)) (hp1 : M 133 6 ≤ M 131 9) (hp2 : Wl M) (hp3 : M 131 16 = 0) : CV l yX12_readEvent cX12_readEvent 6 none 8 (fun ad => [.ref (ad 131)]) M (fun M' => Fr [131, 133, 233] M M' ∧ (Wl M' ∧ M' 131 7 = M 131 7 ∧ M' 131 16 = M 131 16 ∧ M 131 9 ≤ M' 131 9 ∧ 0 ≤ M' 131 9 ∧ M' 131 9 ≤ M' 131 8 ∧ M' 131 8 ≤ M' 131 7 ∧ M' 131 7 ≤ 900 ∧ (M' 131 10 = 0 ∨ M' 131 9 < M' 131 8) ∧ M' 133 6 = M 133 6 ∧ M' 133 1 = M 133 1 ∧ (M' 131 12 = 0 → M 131 12 = 0)) ∧ (Im (M 131 12 = 0) (Im (¬ M 131 10 = 3) (tR M' = eventF (absR M, dR M))))) := by
  obtain ⟨hI, hW⟩ := hJ
  have hF : Fr [131, 133, 233] M M := Fr.rf
  have hI0 := hI
  have hW0 := hW
  refine en_v (by decide +kernel) (fun ad => by exact Nat.le_of_ble_eq_true rfl) (fun D cy ad A p e s m args below meth c Q F hret => ?_)
  refine z_eq (ls' := [(0, .ref (ad 131))]) rfl rfl rfl ?_
  have hL := hp2
  obtain ⟨g1, g2, g3, g4, hT⟩ := hp0
  have hT : Tk M := hT
  have kbM : 0 ≤ M 131 12 ∧ M 131 12 ≤ 4 := hI.at (show Bd 131 12 = (0, 4) from rfl)
  refine z_aload_n F dX12_readEvent_0 rfl (q := 0) rfl ?_
  refine z_iconst F dX12_readEvent_1 ?_
  refine z_bipush F dX12_readEvent_2 (by decide +kernel) ?_
  refine zv_i (rest := []) F (kp_X12_begins l M ⟨hI, hW⟩ 4 (by omega) (by omega) 6 (by omega) (by omega) ⟨by omega, by omega, by omega, by omega, hT⟩) cs_X12_203 (T := TX12) (N := 44) (ci := 12) rfl gs_131 (by decide) (by decide) rfl rfl rfl (Nat.le_of_ble_eq_true rfl) dX12_readEvent_4 (fun v1 M2 rv1 hI p3 => ?_)
  obtain ⟨hI, hW⟩ := hI
  obtain ⟨⟨av1, bv1⟩, fp3, xp3, yp3⟩ := p3
  have hF := hF.call fp3 (by decide)
  have tM2_133_6 : M2 133 6 = M 133 6 := fp3.at (by decide)
  have tM2_133_1 : M2 133 1 = M 133 1 := fp3.at (by decide)
  have tM2_133_2 : M2 133 2 = M 133 2 := fp3.at (by decide)
  have tM2_133_4 : M2 133 4 = M 133 4 := fp3.at (by decide)
  have tM2_133_3 : M2 133 3 = M 133 3 := fp3.at (by decide)
  have hq9 := wl_fr fp3 (by decide)
  have hL := hq9.2 hL
  have cM2 := hq9.1
  clear hq9
  have hbv1 : M 133 (4 : Int).toNat = M 133 4 := rfl
  obtain ⟨qp3_0, qp3_1, qp3_2, qp3_3, qp3_4, qp3_5, qp3_6, qp3_7, qp3_8, qp3_9, qp3_10⟩ := xp3
  have kbM2 : 0 ≤ M2 131 12 ∧ M2 131 12 ≤ 4 := hI.at (show Bd 131 12 = (0, 4) from rfl)
  have hT : Tk M2 := qp3_7
  clear qp3_7
  have lbqp3_9 : M 131 12 ≤ 4 * M2 131 12 := by omega
  clear qp3_9
  refine z_if_ne (tgt := 11) F dX12_readEvent_7 (by decide +kernel) (by omega) (fun c4 => ?_) (fun c4 => ?_)
  · have h0 : M 131 12 = 0 := by omega
    have a1 : Im (¬ M 131 10 = 3) (ev1 (dR M) (absR M) = absR M2) := fun ht => yp3 h0 ht (show M 133 4 ≤ 6 from (hI0.at (show Bd 133 4 = (0, 6) from rfl)).2)
    refine z_aload_n F dX12_readEvent_11 rfl (q := 0) rfl ?_
    refine z_iconst F dX12_readEvent_12 ?_
    refine z_sipush F dX12_readEvent_13 (by decide +kernel) ?_
    refine zv_i (rest := []) F (kp_X12_number l M2 ⟨hI, hW⟩ 0 (by omega) (by omega) 999 (by omega) (by omega) ⟨by omega, by omega, by omega, by omega, hT⟩) cs_X12_199 (T := TX12) (N := 44) (ci := 12) rfl gs_131 (by decide) (by decide) rfl rfl rfl (Nat.le_of_ble_eq_true rfl) dX12_readEvent_16 (fun v5 M6 rv5 hI p7 => ?_)
    obtain ⟨hI, hW⟩ := hI
    obtain ⟨⟨av5, bv5⟩, fp7, xp7, yp7⟩ := p7
    have hF := hF.call fp7 (by decide)
    have tM6_133_6 : M6 133 6 = M2 133 6 := fp7.at (by decide)
    have tM6_133_1 : M6 133 1 = M2 133 1 := fp7.at (by decide)
    have tM6_133_2 : M6 133 2 = M2 133 2 := fp7.at (by decide)
    have tM6_133_4 : M6 133 4 = M2 133 4 := fp7.at (by decide)
    have tM6_133_3 : M6 133 3 = M2 133 3 := fp7.at (by decide)
    have hq9 := wl_fr fp7 (by decide)
    have hL := hq9.2 hL
    have cM6 := hq9.1
    clear hq9
    have hkv5 : 0 ≤ v5 ∧ v5 ≤ 999 := by omega
    obtain ⟨qp7_0, qp7_1, qp7_2, qp7_3, qp7_4, qp7_5, qp7_6, qp7_7, qp7_8, qp7_9⟩ := xp7
    have kbM6 : 0 ≤ M6 131 12 ∧ M6 131 12 ≤ 4 := hI.at (show Bd 131 12 = (0, 4) from rfl)
    have hT : Tk M6 := qp7_7
    clear qp7_7
    clear qp7_8
    have lbqp7_9 : M2 131 12 ≤ 4 * M6 131 12 := by omega
    have lpqp7_9 : M2 131 9 + 1 ≤ M6 131 9 + M6 131 12 := by omega
    clear qp7_9
    refine z_istore_n F dX12_readEvent_19 rfl (by decide) (ls' := [(1, ii v5), (0, .ref (ad 131))]) rfl ?_
    refine z_aload_n F dX12_readEvent_20 rfl (q := 1) rfl ?_
    refine z_ldcS (j := 60) F dX12_readEvent_21 rfl rfl rfl ?_
    refine z_eq (st' := [.ref (ad 1060), .ref (ad 131)]) rfl rfl rfl ?_
    refine zv_v (rest := []) F (kp_X12_mustWord_131_1060 l M6 ⟨hI, hW⟩ ⟨by omega, by omega, by omega, by omega, hT⟩) cs_X12_215 (T := TX12) (N := 44) (ci := 12) rfl gs_131 (by decide) (by decide) rfl rfl rfl (Nat.le_of_ble_eq_true rfl) dX12_readEvent_23 (fun M8 hI p9 => ?_)
    obtain ⟨hI, hW⟩ := hI
    obtain ⟨fp9, xp9, yp9⟩ := p9
    have hF := hF.call fp9 (by decide)
    have tM8_133_6 : M8 133 6 = M6 133 6 := fp9.at (by decide)
    have tM8_133_1 : M8 133 1 = M6 133 1 := fp9.at (by decide)
    have tM8_133_2 : M8 133 2 = M6 133 2 := fp9.at (by decide)
    have tM8_133_4 : M8 133 4 = M6 133 4 := fp9.at (by decide)
    have tM8_133_3 : M8 133 3 = M6 133 3 := fp9.at (by decide)
    have hq9 := wl_fr fp9 (by decide)
    have hL := hq9.2 hL
    have cM8 := hq9.1
    clear hq9
    obtain ⟨qp9_0, qp9_1, qp9_2, qp9_3, qp9_4, qp9_5, qp9_6, qp9_7, qp9_8⟩ := xp9
    have kbM8 : 0 ≤ M8 131 12 ∧ M8 131 12 ≤ 4 := hI.at (show Bd 131 12 = (0, 4) from rfl)
    have hT : Tk M8 := qp9_7
    clear qp9_7
    have lbqp9_8 : M6 131 12 ≤ 4 * M8 131 12 := by omega
    clear qp9_8
    refine z_aload_n F dX12_readEvent_26 rfl (q := 1) rfl ?_
    refine z_iconst F dX12_readEvent_27 ?_
    refine z_aload_n F dX12_readEvent_28 rfl (q := 1) rfl ?_
    refine rf_X12_13 F gs_131 rfl dX12_readEvent_29 ?_
    refine z_iconst F dX12_readEvent_32 ?_
    refine z_iald F hI gs_133 (by omega) (by omega) (by decide) (show Bd 133 2 = (0, 8) from rfl) dX12_readEvent_33 (fun v10 (ev10 : v10 = M8 133 2) av10 bv10 => ?_)
    refine z_iconst F dX12_readEvent_34 ?_
    refine z_isub F dX12_readEvent_35 ?_
    refine zv_i (rest := []) F (kp_X12_number l M8 ⟨hI, hW⟩ 0 (by omega) (by omega) (v10 - 1) (by omega) (by omega) ⟨by omega, by omega, by omega, by omega, hT⟩) cs_X12_199 (T := TX12) (N := 44) (ci := 12) rfl gs_131 (by decide) (by decide) rfl rfl rfl (Nat.le_of_ble_eq_true rfl) dX12_readEvent_36 (fun v11 M12 rv11 hI p13 => ?_)
    obtain ⟨hI, hW⟩ := hI
    obtain ⟨⟨av11, bv11⟩, fp13, xp13, yp13⟩ := p13
    have hF := hF.call fp13 (by decide)
    have tM12_133_6 : M12 133 6 = M8 133 6 := fp13.at (by decide)
    have tM12_133_1 : M12 133 1 = M8 133 1 := fp13.at (by decide)
    have tM12_133_2 : M12 133 2 = M8 133 2 := fp13.at (by decide)
    have tM12_133_4 : M12 133 4 = M8 133 4 := fp13.at (by decide)
    have tM12_133_3 : M12 133 3 = M8 133 3 := fp13.at (by decide)
    have hq9 := wl_fr fp13 (by decide)
    have hL := hq9.2 hL
    have cM12 := hq9.1
    clear hq9
    have hkv11 : 0 ≤ v11 ∧ v11 ≤ 7 := by omega
    obtain ⟨qp13_0, qp13_1, qp13_2, qp13_3, qp13_4, qp13_5, qp13_6, qp13_7, qp13_8, qp13_9⟩ := xp13
    have kbM12 : 0 ≤ M12 131 12 ∧ M12 131 12 ≤ 4 := hI.at (show Bd 131 12 = (0, 4) from rfl)
    have hT : Tk M12 := qp13_7
    clear qp13_7
    clear qp13_8
    have lbqp13_9 : M8 131 12 ≤ 4 * M12 131 12 := by omega
    have lpqp13_9 : M8 131 9 + 1 ≤ M12 131 9 + M12 131 12 := by omega
    clear qp13_9
    refine z_istore_n F dX12_readEvent_39 rfl (by decide) (ls' := [(2, ii v11), (1, ii v5), (0, .ref (ad 131))]) rfl ?_
    refine z_aload_n F dX12_readEvent_40 rfl (q := 2) rfl ?_
    refine z_ldcS (j := 66) F dX12_readEvent_41 rfl rfl rfl ?_
    refine z_eq (st' := [.ref (ad 1066), .ref (ad 131)]) rfl rfl rfl ?_
    refine zv_i (rest := []) F (kp_X12_isWord_131_1066 l M12 ⟨hI, hW⟩ ⟨by omega, by omega, by omega, by omega, hT⟩) cs_X12_123 (T := TX12) (N := 44) (ci := 12) rfl gs_131 (by decide) (by decide) rfl rfl rfl (Nat.le_of_ble_eq_true rfl) dX12_readEvent_43 (fun v14 M15 rv14 hI p16 => ?_)
    obtain ⟨hI, hW⟩ := hI
    obtain ⟨⟨av14, bv14⟩, rfl, xp16, yp16⟩ := p16
    clear xp16
    refine z_istore_n F dX12_readEvent_46 rfl (by decide) (ls' := [(3, ii v14), (2, ii v11), (1, ii v5), (0, .ref (ad 131))]) rfl ?_
    have a3 : Im (¬ M 131 10 = 3) (ev3 (dR M) (absR M) = absR M8) := fun ht => by
      unfold ev3
      rw [a1 ht, yp7.1]
      exact yp9
    have a4 : Im (¬ M 131 10 = 3) (ev4 (dR M) (absR M) = absR M12) := fun ht => by
      unfold ev4
      rw [a3 ht]
      show numB 0 (M 133 2 - 1) noB _ = _
      rw [show M 133 2 - 1 = (v10 - 1) from by omega]
      exact yp13.1
    have cut65 : ∀ (M17 : Mem), Inv M17 → WFk M17 → Fr [131, 133, 233] M M17 → (0 ≤ M17 131 9 ∧ M17 131 9 ≤ M17 131 8 ∧ M17 131 8 ≤ M17 131 7 ∧ M17 131 7 ≤ 900) → (M17 131 7 = M 131 7 ∧ M17 131 16 = M 131 16 ∧ M 131 9 ≤ M17 131 9 ∧ M17 133 6 = M 133 6 ∧ M17 133 1 = M 133 1 ∧ M17 133 2 = M 133 2 ∧ M17 133 4 = M 133 4 ∧ M17 133 3 = M 133 3 ∧ M 131 12 ≤ 4 * M17 131 12 ∧ 0 ≤ M17 131 12 ∧ M17 131 12 ≤ 4) → (Wl M17) → (Tk M17) → (Or2 (absR M17 = absR M12 ∧ (isW w_less (absR M12) = true ∨ isW w_more (absR M12) = true)) (absR M17 = lessF (absR M12) ∧ ¬ M17 131 12 = 0)) → (M12 131 12 ≤ 4 * M17 131 12) → (dR M17 = dR M) → Z D cy ad p l e (RMh 8) s m args below meth c A 6 0 0 Q 65 [(0, .ref (ad 131)), (1, ii v5), (2, ii v11), (3, ii v14)] [] M17 := by
      intro M17 hI hW hF j65_0 j65_1 j65_2 j65_3 j65_4 j65_5 j65_6
      have hL := j65_2
      have hT := j65_3
      have cut76 : ∀ (M18 : Mem), Inv M18 → WFk M18 → Fr [131, 133, 233] M M18 → (0 ≤ M18 131 9 ∧ M18 131 9 ≤ M18 131 8 ∧ M18 131 8 ≤ M18 131 7 ∧ M18 131 7 ≤ 900) → (M18 131 7 = M 131 7 ∧ M18 131 16 = M 131 16 ∧ M 131 9 ≤ M18 131 9 ∧ M18 133 6 = M 133 6 ∧ M18 133 1 = M 133 1 ∧ M18 133 2 = M 133 2 ∧ M18 133 4 = M 133 4 ∧ M18 133 3 = M 133 3 ∧ M 131 12 ≤ 4 * M18 131 12 ∧ 0 ≤ M18 131 12 ∧ M18 131 12 ≤ 4) → (Wl M18) → (Tk M18) → (lessF (absR M12) = absR M18) → (M17 131 12 ≤ 4 * M18 131 12) → (dR M18 = dR M) → Z D cy ad p l e (RMh 8) s m args below meth c A 6 0 0 Q 76 [(0, .ref (ad 131)), (1, ii v5), (2, ii v11), (3, ii v14)] [] M18 := by
        intro M18 hI hW hF j76_0 j76_1 j76_2 j76_3 j76_4 j76_5 j76_6
        have hL := j76_2
        have hT := j76_3
        refine z_aload_n F dX12_readEvent_76 rfl (q := 0) rfl ?_
        refine z_iconst F dX12_readEvent_77 ?_
        refine z_bipush F dX12_readEvent_78 (by decide +kernel) ?_
        refine zv_i (rest := []) F (kp_X12_number l M18 ⟨hI, hW⟩ 1 (by omega) (by omega) 9 (by omega) (by omega) ⟨by omega, by omega, by omega, by omega, hT⟩) cs_X12_199 (T := TX12) (N := 44) (ci := 12) rfl gs_131 (by decide) (by decide) rfl rfl rfl (Nat.le_of_ble_eq_true rfl) dX12_readEvent_80 (fun v19 M20 rv19 hI p21 => ?_)
        obtain ⟨hI, hW⟩ := hI
        obtain ⟨⟨av19, bv19⟩, fp21, xp21, yp21⟩ := p21
        have hF := hF.call fp21 (by decide)
        have tM20_133_6 : M20 133 6 = M18 133 6 := fp21.at (by decide)
        have tM20_133_1 : M20 133 1 = M18 133 1 := fp21.at (by decide)
        have tM20_133_2 : M20 133 2 = M18 133 2 := fp21.at (by decide)
        have tM20_133_4 : M20 133 4 = M18 133 4 := fp21.at (by decide)
        have tM20_133_3 : M20 133 3 = M18 133 3 := fp21.at (by decide)
        have hq9 := wl_fr fp21 (by decide)
        have hL := hq9.2 hL
        have cM20 := hq9.1
        clear hq9
        have hkv19 : 1 ≤ v19 ∧ v19 ≤ 9 := by omega
        obtain ⟨qp21_0, qp21_1, qp21_2, qp21_3, qp21_4, qp21_5, qp21_6, qp21_7, qp21_8, qp21_9⟩ := xp21
        have kbM20 : 0 ≤ M20 131 12 ∧ M20 131 12 ≤ 4 := hI.at (show Bd 131 12 = (0, 4) from rfl)
        have hT : Tk M20 := qp21_7
        clear qp21_7
        clear qp21_8
        have lbqp21_9 : M18 131 12 ≤ 4 * M20 131 12 := by omega
        have lpqp21_9 : M18 131 9 + 1 ≤ M20 131 9 + M20 131 12 := by omega
        clear qp21_9
        refine z_istore F dX12_readEvent_83 (by decide) (ls' := [(4, ii v19), (0, .ref (ad 131)), (1, ii v5), (2, ii v11), (3, ii v14)]) rfl ?_
        refine z_aload_n F dX12_readEvent_85 rfl (q := 1) rfl ?_
        refine gf_X12_108 F hI gs_131 rfl bd_131_12 dX12_readEvent_86 (fun v22 ev22 av22 bv22 => ?_)
        refine z_if_eq (tgt := 93) F dX12_readEvent_89 (by decide +kernel) (by omega) (fun c23 => ?_) (fun c23 => ?_)
        · refine z_sipush F dX12_readEvent_93 (by decide +kernel) ?_
          refine z_iconst F dX12_readEvent_96 ?_
          refine z_aload_n F dX12_readEvent_97 rfl (q := 1) rfl ?_
          refine rf_X12_13 F gs_131 rfl dX12_readEvent_98 ?_
          refine z_iconst F dX12_readEvent_101 ?_
          refine z_iald F hI gs_133 (by omega) (by omega) (by decide) (show Bd 133 4 = (0, 6) from rfl) dX12_readEvent_102 (fun v24 (ev24 : v24 = M20 133 4) av24 bv24 => ?_)
          have k25 : 0 ≤ v24 ∧ v24 ≤ 5 := by omega
          refine z_imul F dX12_readEvent_103 ?_
          refine z_iadd F dX12_readEvent_104 ?_
          refine z_nm (fun v26 ev26 => ?_)
          refine z_istore F dX12_readEvent_105 (by decide) (ls' := [(5, ii v26), (4, ii v19), (0, .ref (ad 131)), (1, ii v5), (2, ii v11), (3, ii v14)]) rfl ?_
          have hI8 := hI
          refine z_aload_n F dX12_readEvent_107 rfl (q := 2) rfl ?_
          refine rf_X12_13 F gs_131 rfl dX12_readEvent_108 ?_
          refine z_iload F dX12_readEvent_111 (q := 0) rfl ?_
          refine z_iload_n F dX12_readEvent_113 rfl (q := 3) rfl ?_
          refine z_iast F hI gs_133 (by omega) (by omega) (by decide) (bd_133.trans (kn_ev0 (by omega) (by omega) (by omega))) dX12_readEvent_114 (by omega) (by omega) (fun M28 hI sf27 f27 => ?_)
          have tM28_131_7 : M28 131 7 = M20 131 7 := f27 131 7 (fun q => absurd q.1 (by decide))
          have tM28_131_8 : M28 131 8 = M20 131 8 := f27 131 8 (fun q => absurd q.1 (by decide))
          have tM28_131_9 : M28 131 9 = M20 131 9 := f27 131 9 (fun q => absurd q.1 (by decide))
          have tM28_131_10 : M28 131 10 = M20 131 10 := f27 131 10 (fun q => absurd q.1 (by decide))
          have tM28_131_12 : M28 131 12 = M20 131 12 := f27 131 12 (fun q => absurd q.1 (by decide))
          have tM28_131_16 : M28 131 16 = M20 131 16 := f27 131 16 (fun q => absurd q.1 (by decide))
          have tM28_133_6 : M28 133 6 = M20 133 6 := f27 133 6 (fun q => by have := q.2; omega)
          have tM28_133_1 : M28 133 1 = M20 133 1 := f27 133 1 (fun q => by have := q.2; omega)
          have tM28_133_2 : M28 133 2 = M20 133 2 := f27 133 2 (fun q => by have := q.2; omega)
          have tM28_133_4 : M28 133 4 = M20 133 4 := f27 133 4 (fun q => by have := q.2; omega)
          have tM28_133_3 : M28 133 3 = M20 133 3 := f27 133 3 (fun q => by have := q.2; omega)
          have hT := tk_ws f27 (by decide) hT
          have hq9 := wl_wr f27 (by omega)
          have hL := hq9.2 hL
          have cM28 := hq9.1
          clear hq9
          have hF := hF.wrn f27 (by decide) (Or.inr (by decide))
          have hW : WFk M28 := hW.site f27 (by decide)
          refine z_aload_n F dX12_readEvent_115 rfl (q := 2) rfl ?_
          refine rf_X12_13 F gs_131 rfl dX12_readEvent_116 ?_
          refine z_iload F dX12_readEvent_119 (q := 0) rfl ?_
          refine z_iconst F dX12_readEvent_121 ?_
          refine z_iadd F dX12_readEvent_122 ?_
          refine z_iload_n F dX12_readEvent_123 rfl (q := 4) rfl ?_
          refine z_iast F hI gs_133 (by omega) (by omega) (by decide) (bd_133.trans (kn_ev1 (by omega) (by omega) (by omega))) dX12_readEvent_124 (by omega) (by omega) (fun M30 hI sf29 f29 => ?_)
          have tM30_131_7 : M30 131 7 = M28 131 7 := f29 131 7 (fun q => absurd q.1 (by decide))
          have tM30_131_8 : M30 131 8 = M28 131 8 := f29 131 8 (fun q => absurd q.1 (by decide))
          have tM30_131_9 : M30 131 9 = M28 131 9 := f29 131 9 (fun q => absurd q.1 (by decide))
          have tM30_131_10 : M30 131 10 = M28 131 10 := f29 131 10 (fun q => absurd q.1 (by decide))
          have tM30_131_12 : M30 131 12 = M28 131 12 := f29 131 12 (fun q => absurd q.1 (by decide))
          have tM30_131_16 : M30 131 16 = M28 131 16 := f29 131 16 (fun q => absurd q.1 (by decide))
          have tM30_133_6 : M30 133 6 = M28 133 6 := f29 133 6 (fun q => by have := q.2; omega)
          have tM30_133_1 : M30 133 1 = M28 133 1 := f29 133 1 (fun q => by have := q.2; omega)
          have tM30_133_2 : M30 133 2 = M28 133 2 := f29 133 2 (fun q => by have := q.2; omega)
          have tM30_133_4 : M30 133 4 = M28 133 4 := f29 133 4 (fun q => by have := q.2; omega)
          have tM30_133_3 : M30 133 3 = M28 133 3 := f29 133 3 (fun q => by have := q.2; omega)
          have hT := tk_ws f29 (by decide) hT
          have hq9 := wl_wr f29 (by omega)
          have hL := hq9.2 hL
          have cM30 := hq9.1
          clear hq9
          have hF := hF.wrn f29 (by decide) (Or.inr (by decide))
          have hW : WFk M30 := hW.site f29 (by decide)
          refine z_aload_n F dX12_readEvent_125 rfl (q := 2) rfl ?_
          refine rf_X12_13 F gs_131 rfl dX12_readEvent_126 ?_
          refine z_iload F dX12_readEvent_129 (q := 0) rfl ?_
          refine z_iconst F dX12_readEvent_131 ?_
          refine z_iadd F dX12_readEvent_132 ?_
          refine z_iload_n F dX12_readEvent_133 rfl (q := 5) rfl ?_
          refine z_if_eq (tgt := 143) F dX12_readEvent_134 (by decide +kernel) (by omega) (fun c31 => ?_) (fun c31 => ?_)
          · refine z_iload F dX12_readEvent_143 (q := 1) rfl ?_
            refine z_iast F hI gs_133 (by omega) (by omega) (by decide) (bd_133.trans (kn_ev2 (by omega) (by omega) (by omega))) dX12_readEvent_145 (by omega) (by omega) (fun M33 hI sf32 f32 => ?_)
            have tM33_131_7 : M33 131 7 = M30 131 7 := f32 131 7 (fun q => absurd q.1 (by decide))
            have tM33_131_8 : M33 131 8 = M30 131 8 := f32 131 8 (fun q => absurd q.1 (by decide))
            have tM33_131_9 : M33 131 9 = M30 131 9 := f32 131 9 (fun q => absurd q.1 (by decide))
            have tM33_131_10 : M33 131 10 = M30 131 10 := f32 131 10 (fun q => absurd q.1 (by decide))
            have tM33_131_12 : M33 131 12 = M30 131 12 := f32 131 12 (fun q => absurd q.1 (by decide))
            have tM33_131_16 : M33 131 16 = M30 131 16 := f32 131 16 (fun q => absurd q.1 (by decide))
            have tM33_133_6 : M33 133 6 = M30 133 6 := f32 133 6 (fun q => by have := q.2; omega)
            have tM33_133_1 : M33 133 1 = M30 133 1 := f32 133 1 (fun q => by have := q.2; omega)
            have tM33_133_2 : M33 133 2 = M30 133 2 := f32 133 2 (fun q => by have := q.2; omega)
            have tM33_133_4 : M33 133 4 = M30 133 4 := f32 133 4 (fun q => by have := q.2; omega)
            have tM33_133_3 : M33 133 3 = M30 133 3 := f32 133 3 (fun q => by have := q.2; omega)
            have hT := tk_ws f32 (by decide) hT
            have hq9 := wl_wr f32 (by omega)
            have hL := hq9.2 hL
            have cM33 := hq9.1
            clear hq9
            have hF := hF.wrn f32 (by decide) (Or.inr (by decide))
            have hW : WFk M33 := hW.site f32 (by decide)
            refine z_aload_n F dX12_readEvent_146 rfl (q := 2) rfl ?_
            refine rf_X12_13 F gs_131 rfl dX12_readEvent_147 ?_
            refine z_iconst F dX12_readEvent_150 ?_
            refine z_dup2 F dX12_readEvent_151 rfl rfl ?_
            refine z_iald F hI gs_133 (by omega) (by omega) (by decide) (show Bd 133 4 = (0, 6) from rfl) dX12_readEvent_152 (fun v34 (ev34 : v34 = M33 133 4) av34 bv34 => ?_)
            have q35 : v24 = M28 133 4 := ev24.trans (f27 133 4 (fun q => by omega)).symm
            have q36 : v24 = M30 133 4 := q35.trans (f29 133 4 (fun q => by omega)).symm
            have q37 : v24 = M33 133 4 := q36.trans (f32 133 4 (fun q => by omega)).symm
            have zv34 : v24 = v34 := q37.trans ev34.symm
            subst zv34
            refine z_iconst F dX12_readEvent_153 ?_
            refine z_iadd F dX12_readEvent_154 ?_
            refine z_nm (fun v39 ev39 => ?_)
            refine z_iast F hI gs_133 (by omega) (by omega) (by decide) (show Bd 133 4 = (0, 6) from rfl) dX12_readEvent_155 (by omega) (by omega) (fun M40 hI sf38 f38 => ?_)
            have tM40_131_7 : M40 131 7 = M33 131 7 := f38 131 7 (fun q => absurd q.1 (by decide))
            have tM40_131_8 : M40 131 8 = M33 131 8 := f38 131 8 (fun q => absurd q.1 (by decide))
            have tM40_131_9 : M40 131 9 = M33 131 9 := f38 131 9 (fun q => absurd q.1 (by decide))
            have tM40_131_10 : M40 131 10 = M33 131 10 := f38 131 10 (fun q => absurd q.1 (by decide))
            have tM40_131_12 : M40 131 12 = M33 131 12 := f38 131 12 (fun q => absurd q.1 (by decide))
            have tM40_131_16 : M40 131 16 = M33 131 16 := f38 131 16 (fun q => absurd q.1 (by decide))
            have tM40_133_6 : M40 133 6 = M33 133 6 := f38 133 6 (fun q => absurd q.2 (by decide))
            have tM40_133_1 : M40 133 1 = M33 133 1 := f38 133 1 (fun q => absurd q.2 (by decide))
            have tM40_133_2 : M40 133 2 = M33 133 2 := f38 133 2 (fun q => absurd q.2 (by decide))
            have tM40_133_3 : M40 133 3 = M33 133 3 := f38 133 3 (fun q => absurd q.2 (by decide))
            have hT := tk_ws f38 (by decide) hT
            have hq9 := wl_wr f38 (by omega)
            have hL := hq9.2 hL
            have cM40 := hq9.1
            clear hq9
            have hF := hF.wrn f38 (by decide) (Or.inr (by decide))
            have hW : WFk M40 := hW.site f38 (by decide)
            have sf38 : M40 133 4 = v39 := sf38
            have yy41 : Im (¬ M 131 10 = 3) (tR M40 = eventF (absR M, dR M)) := fun ht => by
              have m9 := yp7.2 (show M6 131 12 = 0 by omega)
              have t9 := yp13.2 (show M12 131 12 = 0 by omega)
              have b9 := yp21.2 (show M20 131 12 = 0 by omega)
              have a5 : ev5 (dR M) (absR M) = absR M18 := by unfold ev5; rw [a4 ht]; exact j76_4
              have dd : dR M40 = addE (dR M20) v5 v11 v19 := dR_event (n := v24) hI8 (by omega) (by omega) (by rw [show (150 + 3 * v24).toNat = (v26).toNat from by omega]; exact ((f38 133 (v26).toNat (fun q => by have := q.2; omega)).trans ((f32 133 (v26).toNat (fun q => by have := q.2; omega)).trans (f29 133 (v26).toNat (fun q => by have := q.2; omega)))).trans sf27) (by rw [show (150 + 3 * v24 + 1).toNat = (v26 + 1).toNat from by omega]; exact ((f38 133 (v26 + 1).toNat (fun q => by have := q.2; omega)).trans (f32 133 (v26 + 1).toNat (fun q => by have := q.2; omega))).trans sf29) (by rw [show (150 + 3 * v24 + 2).toNat = (v26 + 2).toNat from by omega]; exact (f38 133 (v26 + 2).toNat (fun q => by have := q.2; omega)).trans sf32) (show M40 133 4 = v24 + 1 from by omega) (fun b r1 r2 => ((f38 133 b (fun q => by have := q.2; omega)).trans ((f32 133 b (fun q => by have := q.2; omega)).trans ((f29 133 b (fun q => by have := q.2; omega)).trans (f27 133 b (fun q => by have := q.2; omega))))))
              have w9 := wz_f yp16 (by omega)
              exact event_6 ((show ev6 (dR M) (absR M) = absR M20 from by unfold ev6 ev5; rw [a4 ht, j76_4]; exact yp21.1).trans (absR_eq (fun j => ((f38 131 j (fun q => absurd q.1 (by decide))).trans ((f32 131 j (fun q => absurd q.1 (by decide))).trans ((f29 131 j (fun q => absurd q.1 (by decide))).trans (f27 131 j (fun q => absurd q.1 (by decide))))))) (fun j => ((f38 136 j (fun q => absurd q.1 (by decide))).trans ((f32 136 j (fun q => absurd q.1 (by decide))).trans ((f29 136 j (fun q => absurd q.1 (by decide))).trans (f27 136 j (fun q => absurd q.1 (by decide))))))) : absR M40 = absR M20).symm) (fun q => by rw [dd, ((show dR M20 = dR M18 from dR_f (fun b => fp21.at (by decide))).trans j76_6), a1 ht, a3 ht, a4 ht, a5, if_neg (by rw [w9]; decide), ← m9, ← t9, ← b9, show v19 = v19 from by omega])
            exact hret _ 156 _ ⟨hI, hW⟩ ⟨hF, ⟨hL, by omega, by omega, by omega, by omega, by omega, by omega, by omega, hT, by omega, by omega, by omega⟩, (fun h0 ht => yy41 ht)⟩ dX12_readEvent_156
          · refine z_iload F dX12_readEvent_137 (q := 1) rfl ?_
            refine z_ineg F dX12_readEvent_139 ?_
            refine z_goto (tgt := 145) F dX12_readEvent_140 (by decide +kernel) ?_
            refine z_nm (fun v43 ev43 => ?_)
            refine z_iast F hI gs_133 (by omega) (by omega) (by decide) (bd_133.trans (kn_ev2 (by omega) (by omega) (by omega))) dX12_readEvent_145 (by omega) (by omega) (fun M44 hI sf42 f42 => ?_)
            have tM44_131_7 : M44 131 7 = M30 131 7 := f42 131 7 (fun q => absurd q.1 (by decide))
            have tM44_131_8 : M44 131 8 = M30 131 8 := f42 131 8 (fun q => absurd q.1 (by decide))
            have tM44_131_9 : M44 131 9 = M30 131 9 := f42 131 9 (fun q => absurd q.1 (by decide))
            have tM44_131_10 : M44 131 10 = M30 131 10 := f42 131 10 (fun q => absurd q.1 (by decide))
            have tM44_131_12 : M44 131 12 = M30 131 12 := f42 131 12 (fun q => absurd q.1 (by decide))
            have tM44_131_16 : M44 131 16 = M30 131 16 := f42 131 16 (fun q => absurd q.1 (by decide))
            have tM44_133_6 : M44 133 6 = M30 133 6 := f42 133 6 (fun q => by have := q.2; omega)
            have tM44_133_1 : M44 133 1 = M30 133 1 := f42 133 1 (fun q => by have := q.2; omega)
            have tM44_133_2 : M44 133 2 = M30 133 2 := f42 133 2 (fun q => by have := q.2; omega)
            have tM44_133_4 : M44 133 4 = M30 133 4 := f42 133 4 (fun q => by have := q.2; omega)
            have tM44_133_3 : M44 133 3 = M30 133 3 := f42 133 3 (fun q => by have := q.2; omega)
            have hT := tk_ws f42 (by decide) hT
            have hq9 := wl_wr f42 (by omega)
            have hL := hq9.2 hL
            have cM44 := hq9.1
            clear hq9
            have hF := hF.wrn f42 (by decide) (Or.inr (by decide))
            have hW : WFk M44 := hW.site f42 (by decide)
            refine z_aload_n F dX12_readEvent_146 rfl (q := 2) rfl ?_
            refine rf_X12_13 F gs_131 rfl dX12_readEvent_147 ?_
            refine z_iconst F dX12_readEvent_150 ?_
            refine z_dup2 F dX12_readEvent_151 rfl rfl ?_
            refine z_iald F hI gs_133 (by omega) (by omega) (by decide) (show Bd 133 4 = (0, 6) from rfl) dX12_readEvent_152 (fun v45 (ev45 : v45 = M44 133 4) av45 bv45 => ?_)
            have q46 : v24 = M28 133 4 := ev24.trans (f27 133 4 (fun q => by omega)).symm
            have q47 : v24 = M30 133 4 := q46.trans (f29 133 4 (fun q => by omega)).symm
            have q48 : v24 = M44 133 4 := q47.trans (f42 133 4 (fun q => by omega)).symm
            have zv45 : v24 = v45 := q48.trans ev45.symm
            subst zv45
            refine z_iconst F dX12_readEvent_153 ?_
            refine z_iadd F dX12_readEvent_154 ?_
            refine z_nm (fun v50 ev50 => ?_)
            refine z_iast F hI gs_133 (by omega) (by omega) (by decide) (show Bd 133 4 = (0, 6) from rfl) dX12_readEvent_155 (by omega) (by omega) (fun M51 hI sf49 f49 => ?_)
            have tM51_131_7 : M51 131 7 = M44 131 7 := f49 131 7 (fun q => absurd q.1 (by decide))
            have tM51_131_8 : M51 131 8 = M44 131 8 := f49 131 8 (fun q => absurd q.1 (by decide))
            have tM51_131_9 : M51 131 9 = M44 131 9 := f49 131 9 (fun q => absurd q.1 (by decide))
            have tM51_131_10 : M51 131 10 = M44 131 10 := f49 131 10 (fun q => absurd q.1 (by decide))
            have tM51_131_12 : M51 131 12 = M44 131 12 := f49 131 12 (fun q => absurd q.1 (by decide))
            have tM51_131_16 : M51 131 16 = M44 131 16 := f49 131 16 (fun q => absurd q.1 (by decide))
            have tM51_133_6 : M51 133 6 = M44 133 6 := f49 133 6 (fun q => absurd q.2 (by decide))
            have tM51_133_1 : M51 133 1 = M44 133 1 := f49 133 1 (fun q => absurd q.2 (by decide))
            have tM51_133_2 : M51 133 2 = M44 133 2 := f49 133 2 (fun q => absurd q.2 (by decide))
            have tM51_133_3 : M51 133 3 = M44 133 3 := f49 133 3 (fun q => absurd q.2 (by decide))
            have hT := tk_ws f49 (by decide) hT
            have hq9 := wl_wr f49 (by omega)
            have hL := hq9.2 hL
            have cM51 := hq9.1
            clear hq9
            have hF := hF.wrn f49 (by decide) (Or.inr (by decide))
            have hW : WFk M51 := hW.site f49 (by decide)
            have sf49 : M51 133 4 = v50 := sf49
            have yy52 : Im (¬ M 131 10 = 3) (tR M51 = eventF (absR M, dR M)) := fun ht => by
              have m9 := yp7.2 (show M6 131 12 = 0 by omega)
              have t9 := yp13.2 (show M12 131 12 = 0 by omega)
              have b9 := yp21.2 (show M20 131 12 = 0 by omega)
              have a5 : ev5 (dR M) (absR M) = absR M18 := by unfold ev5; rw [a4 ht]; exact j76_4
              have dd : dR M51 = addE (dR M20) v5 v11 v43 := dR_event (n := v24) hI8 (by omega) (by omega) (by rw [show (150 + 3 * v24).toNat = (v26).toNat from by omega]; exact ((f49 133 (v26).toNat (fun q => by have := q.2; omega)).trans ((f42 133 (v26).toNat (fun q => by have := q.2; omega)).trans (f29 133 (v26).toNat (fun q => by have := q.2; omega)))).trans sf27) (by rw [show (150 + 3 * v24 + 1).toNat = (v26 + 1).toNat from by omega]; exact ((f49 133 (v26 + 1).toNat (fun q => by have := q.2; omega)).trans (f42 133 (v26 + 1).toNat (fun q => by have := q.2; omega))).trans sf29) (by rw [show (150 + 3 * v24 + 2).toNat = (v26 + 2).toNat from by omega]; exact (f49 133 (v26 + 2).toNat (fun q => by have := q.2; omega)).trans sf42) (show M51 133 4 = v24 + 1 from by omega) (fun b r1 r2 => ((f49 133 b (fun q => by have := q.2; omega)).trans ((f42 133 b (fun q => by have := q.2; omega)).trans ((f29 133 b (fun q => by have := q.2; omega)).trans (f27 133 b (fun q => by have := q.2; omega))))))
              have w9 := wz_t yp16 (by omega)
              exact event_6 ((show ev6 (dR M) (absR M) = absR M20 from by unfold ev6 ev5; rw [a4 ht, j76_4]; exact yp21.1).trans (absR_eq (fun j => ((f49 131 j (fun q => absurd q.1 (by decide))).trans ((f42 131 j (fun q => absurd q.1 (by decide))).trans ((f29 131 j (fun q => absurd q.1 (by decide))).trans (f27 131 j (fun q => absurd q.1 (by decide))))))) (fun j => ((f49 136 j (fun q => absurd q.1 (by decide))).trans ((f42 136 j (fun q => absurd q.1 (by decide))).trans ((f29 136 j (fun q => absurd q.1 (by decide))).trans (f27 136 j (fun q => absurd q.1 (by decide))))))) : absR M51 = absR M20).symm) (fun q => by rw [dd, ((show dR M20 = dR M18 from dR_f (fun b => fp21.at (by decide))).trans j76_6), a1 ht, a3 ht, a4 ht, a5, if_pos w9, ← m9, ← t9, ← b9, show v43 = -v19 from by omega])
            exact hret _ 156 _ ⟨hI, hW⟩ ⟨hF, ⟨hL, by omega, by omega, by omega, by omega, by omega, by omega, by omega, hT, by omega, by omega, by omega⟩, (fun h0 ht => yy52 ht)⟩ dX12_readEvent_156
        · exact hret _ 92 _ ⟨hI, hW⟩ ⟨hF, ⟨hL, by omega, by omega, by omega, by omega, by omega, by omega, by omega, hT, by omega, by omega, by omega⟩, (fun h0 ht => event_6 (show ev6 (dR M) (absR M) = absR M20 from by unfold ev6 ev5; rw [a4 ht, j76_4]; exact yp21.1) (fun q => by exfalso; have g9 := (vR_fl M20).symm.trans q; omega))⟩ dX12_readEvent_92
      refine z_aload_n F dX12_readEvent_65 rfl (q := 0) rfl ?_
      refine gf_X12_108 F hI gs_131 rfl bd_131_12 dX12_readEvent_66 (fun v53 ev53 av53 bv53 => ?_)
      refine z_if_ne (tgt := 76) F dX12_readEvent_69 (by decide +kernel) (by omega) (fun c54 => ?_) (fun c54 => ?_)
      · refine z_loc [0, 1, 2, 3] (ls' := [(0, .ref (ad 131)), (1, ii v5), (2, ii v11), (3, ii v14)]) rfl ?_
        exact cut76 M17 hI hW hF (by omega) (by omega) hL hT (j65_4.elim (fun q => by exfalso; have g9 : s_fl (absR M12) = 0 := q.2.elim (fun r => (isW_iff.mp r).1) (fun r => (isW_iff.mp r).1); rw [← q.1, vR_fl] at g9; omega) (fun q => q.1.symm)) (by omega) ((rfl : dR M17 = dR M17).trans j65_6)
      · refine z_aload_n F dX12_readEvent_72 rfl (q := 0) rfl ?_
        refine zv_v (rest := []) F (kp_X12_readsOn l M17 ⟨hI, hW⟩ (by omega)) cs_X12_127 (T := TX12) (N := 44) (ci := 12) rfl gs_131 (by decide) (by decide) rfl rfl rfl (Nat.le_of_ble_eq_true rfl) dX12_readEvent_73 (fun M55 hI p56 => ?_)
        obtain ⟨hI, hW⟩ := hI
        obtain ⟨fp56, xp56, yp56⟩ := p56
        have hF := hF.call fp56 (by decide)
        have tM55_133_6 : M55 133 6 = M17 133 6 := fp56.at (by decide)
        have tM55_133_1 : M55 133 1 = M17 133 1 := fp56.at (by decide)
        have tM55_133_2 : M55 133 2 = M17 133 2 := fp56.at (by decide)
        have tM55_133_4 : M55 133 4 = M17 133 4 := fp56.at (by decide)
        have tM55_133_3 : M55 133 3 = M17 133 3 := fp56.at (by decide)
        have hq9 := wl_fr fp56 (by decide)
        have hL := hq9.2 hL
        have cM55 := hq9.1
        clear hq9
        obtain ⟨qp56_0, qp56_1, qp56_2, qp56_3, qp56_4, qp56_5, qp56_6, qp56_7, qp56_8⟩ := xp56
        have kbM55 : 0 ≤ M55 131 12 ∧ M55 131 12 ≤ 4 := hI.at (show Bd 131 12 = (0, 4) from rfl)
        have hT : Tk M55 := qp56_5
        clear qp56_5
        refine z_loc [0, 1, 2, 3] (ls' := [(0, .ref (ad 131)), (1, ii v5), (2, ii v11), (3, ii v14)]) rfl ?_
        exact cut76 M55 hI hW hF (by omega) (by omega) hL hT (j65_4.elim (fun q => less_a q.2 (by rw [← q.1]; exact yp56 (by omega))) (fun q => absurd (by omega) q.2)) (by omega) ((show dR M55 = dR M17 from dR_f (fun b => fp56.at (by decide))).trans j65_6)
    refine z_iload_n F dX12_readEvent_47 rfl (q := 0) rfl ?_
    refine z_if_ne (tgt := 65) F dX12_readEvent_48 (by decide +kernel) (by omega) (fun c57 => ?_) (fun c57 => ?_)
    · refine z_loc [3, 2, 1, 0] (ls' := [(0, .ref (ad 131)), (1, ii v5), (2, ii v11), (3, ii v14)]) rfl ?_
      exact cut65 M12 hI hW hF (by omega) (by omega) hL hT (Or.inl ⟨rfl, Or.inl (wz_t yp16 (by omega))⟩) (by omega) ((show dR M12 = dR M8 from dR_f (fun b => fp13.at (by decide))).trans ((show dR M8 = dR M6 from dR_f (fun b => fp9.at (by decide))).trans ((show dR M6 = dR M2 from dR_f (fun b => fp7.at (by decide))).trans (show dR M2 = dR M from dR_f (fun b => fp3.at (by decide))))))
    · refine z_aload_n F dX12_readEvent_51 rfl (q := 3) rfl ?_
      refine z_ldcS (j := 67) F dX12_readEvent_52 rfl rfl rfl ?_
      refine z_eq (st' := [.ref (ad 1067), .ref (ad 131)]) rfl rfl rfl ?_
      refine zv_i (rest := []) F (kp_X12_isWord_131_1067 l M12 ⟨hI, hW⟩ ⟨by omega, by omega, by omega, by omega, hT⟩) cs_X12_123 (T := TX12) (N := 44) (ci := 12) rfl gs_131 (by decide) (by decide) rfl rfl rfl (Nat.le_of_ble_eq_true rfl) dX12_readEvent_54 (fun v58 M59 rv58 hI p60 => ?_)
      obtain ⟨hI, hW⟩ := hI
      obtain ⟨⟨av58, bv58⟩, rfl, xp60, yp60⟩ := p60
      clear xp60
      refine z_if_ne (tgt := 65) F dX12_readEvent_57 (by decide +kernel) (by omega) (fun c61 => ?_) (fun c61 => ?_)
      · refine z_loc [3, 2, 1, 0] (ls' := [(0, .ref (ad 131)), (1, ii v5), (2, ii v11), (3, ii v14)]) rfl ?_
        exact cut65 M12 hI hW hF (by omega) (by omega) hL hT (Or.inl ⟨rfl, Or.inr (wz_t yp60 (by omega))⟩) (by omega) ((show dR M12 = dR M8 from dR_f (fun b => fp13.at (by decide))).trans ((show dR M8 = dR M6 from dR_f (fun b => fp9.at (by decide))).trans ((show dR M6 = dR M2 from dR_f (fun b => fp7.at (by decide))).trans (show dR M2 = dR M from dR_f (fun b => fp3.at (by decide))))))
      · refine z_aload_n F dX12_readEvent_60 rfl (q := 3) rfl ?_
        refine z_iconst F dX12_readEvent_61 ?_
        refine zv_v (rest := []) F (kp_X12_blames l M12 ⟨hI, hW⟩ 2 (by omega) (by omega)) cs_X12_133 (T := TX12) (N := 44) (ci := 12) rfl gs_131 (by decide) (by decide) rfl rfl rfl (Nat.le_of_ble_eq_true rfl) dX12_readEvent_62 (fun M62 hI p63 => ?_)
        obtain ⟨hI, hW⟩ := hI
        obtain ⟨fp63, xp63, yp63⟩ := p63
        have hF := hF.call fp63 (by decide)
        have tM62_133_6 : M62 133 6 = M12 133 6 := fp63.at (by decide)
        have tM62_133_1 : M62 133 1 = M12 133 1 := fp63.at (by decide)
        have tM62_133_2 : M62 133 2 = M12 133 2 := fp63.at (by decide)
        have tM62_133_4 : M62 133 4 = M12 133 4 := fp63.at (by decide)
        have tM62_133_3 : M62 133 3 = M12 133 3 := fp63.at (by decide)
        have hq9 := wl_fr fp63 (by decide)
        have hL := hq9.2 hL
        have cM62 := hq9.1
        clear hq9
        obtain ⟨qp63_0, qp63_1, qp63_2, qp63_3, qp63_4, qp63_5⟩ := xp63
        have kbM62 : 0 ≤ M62 131 12 ∧ M62 131 12 ≤ 4 := hI.at (show Bd 131 12 = (0, 4) from rfl)
        have hT := tk_eq hT qp63_2 qp63_3 qp63_4
        refine z_loc [3, 2, 1, 0] (ls' := [(0, .ref (ad 131)), (1, ii v5), (2, ii v11), (3, ii v14)]) rfl ?_
        exact cut65 M62 hI hW hF (by omega) (by omega) hL hT (Or.inr ⟨(less_n (wz_f yp16 (by omega)) (must_f (wz_f yp60 (by omega)) yp63)).symm, by omega⟩) (by omega) ((show dR M62 = dR M12 from dR_f (fun b => fp63.at (by decide))).trans ((show dR M12 = dR M8 from dR_f (fun b => fp13.at (by decide))).trans ((show dR M8 = dR M6 from dR_f (fun b => fp9.at (by decide))).trans ((show dR M6 = dR M2 from dR_f (fun b => fp7.at (by decide))).trans (show dR M2 = dR M from dR_f (fun b => fp3.at (by decide)))))))
  · exact hret _ 10 _ ⟨hI, hW⟩ ⟨hF, ⟨hL, by omega, by omega, by omega, by omega, by omega, by omega, by omega, hT, by omega, by omega, by omega⟩, (fun h0 ht => event_1 (show ev1 (dR M) (absR M) = absR M2 from yp3 h0 ht (show M 133 4 ≤ 6 from (hI0.at (show Bd 133 4 = (0, 6) from rfl)).2)) (by rw [vR_fl]; omega))⟩ dX12_readEvent_10
