theorem dX12_readEvent_0 : decode cX12_readEvent 0 = .ok (.aload_n 0, 1) := by decide +kernel
theorem dX12_readEvent_1 : decode cX12_readEvent 1 = .ok (.iconst 4, 1) := by decide +kernel
theorem dX12_readEvent_10 : decode cX12_readEvent 10 = .ok (.return_, 1) := by decide +kernel
theorem dX12_readEvent_101 : decode cX12_readEvent 101 = .ok (.iconst 4, 1) := by decide +kernel
theorem dX12_readEvent_102 : decode cX12_readEvent 102 = .ok (.iaload, 1) := by decide +kernel
theorem dX12_readEvent_103 : decode cX12_readEvent 103 = .ok (.imul, 1) := by decide +kernel
theorem dX12_readEvent_104 : decode cX12_readEvent 104 = .ok (.iadd, 1) := by decide +kernel
theorem dX12_readEvent_105 : decode cX12_readEvent 105 = .ok (.istore 5, 2) := by decide +kernel
theorem dX12_readEvent_107 : decode cX12_readEvent 107 = .ok (.aload_n 0, 1) := by decide +kernel
theorem dX12_readEvent_108 : decode cX12_readEvent 108 = .ok (.getfield 13, 3) := by decide +kernel
theorem dX12_readEvent_11 : decode cX12_readEvent 11 = .ok (.aload_n 0, 1) := by decide +kernel
theorem dX12_readEvent_111 : decode cX12_readEvent 111 = .ok (.iload 5, 2) := by decide +kernel
theorem dX12_readEvent_113 : decode cX12_readEvent 113 = .ok (.iload_n 1, 1) := by decide +kernel
theorem dX12_readEvent_114 : decode cX12_readEvent 114 = .ok (.iastore, 1) := by decide +kernel
theorem dX12_readEvent_115 : decode cX12_readEvent 115 = .ok (.aload_n 0, 1) := by decide +kernel
theorem dX12_readEvent_116 : decode cX12_readEvent 116 = .ok (.getfield 13, 3) := by decide +kernel
theorem dX12_readEvent_119 : decode cX12_readEvent 119 = .ok (.iload 5, 2) := by decide +kernel
theorem dX12_readEvent_12 : decode cX12_readEvent 12 = .ok (.iconst 0, 1) := by decide +kernel
theorem dX12_readEvent_121 : decode cX12_readEvent 121 = .ok (.iconst 1, 1) := by decide +kernel
theorem dX12_readEvent_122 : decode cX12_readEvent 122 = .ok (.iadd, 1) := by decide +kernel
theorem dX12_readEvent_123 : decode cX12_readEvent 123 = .ok (.iload_n 2, 1) := by decide +kernel
theorem dX12_readEvent_124 : decode cX12_readEvent 124 = .ok (.iastore, 1) := by decide +kernel
theorem dX12_readEvent_125 : decode cX12_readEvent 125 = .ok (.aload_n 0, 1) := by decide +kernel
theorem dX12_readEvent_126 : decode cX12_readEvent 126 = .ok (.getfield 13, 3) := by decide +kernel
theorem dX12_readEvent_129 : decode cX12_readEvent 129 = .ok (.iload 5, 2) := by decide +kernel
theorem dX12_readEvent_13 : decode cX12_readEvent 13 = .ok (.sipush 999, 3) := by decide +kernel
theorem dX12_readEvent_131 : decode cX12_readEvent 131 = .ok (.iconst 2, 1) := by decide +kernel
theorem dX12_readEvent_132 : decode cX12_readEvent 132 = .ok (.iadd, 1) := by decide +kernel
theorem dX12_readEvent_133 : decode cX12_readEvent 133 = .ok (.iload_n 3, 1) := by decide +kernel
theorem dX12_readEvent_134 : decode cX12_readEvent 134 = .ok (.ifCond .eq 9, 3) := by decide +kernel
theorem dX12_readEvent_137 : decode cX12_readEvent 137 = .ok (.iload 4, 2) := by decide +kernel
theorem dX12_readEvent_139 : decode cX12_readEvent 139 = .ok (.ineg, 1) := by decide +kernel
theorem dX12_readEvent_140 : decode cX12_readEvent 140 = .ok (.goto 5, 3) := by decide +kernel
theorem dX12_readEvent_143 : decode cX12_readEvent 143 = .ok (.iload 4, 2) := by decide +kernel
theorem dX12_readEvent_145 : decode cX12_readEvent 145 = .ok (.iastore, 1) := by decide +kernel
theorem dX12_readEvent_146 : decode cX12_readEvent 146 = .ok (.aload_n 0, 1) := by decide +kernel
theorem dX12_readEvent_147 : decode cX12_readEvent 147 = .ok (.getfield 13, 3) := by decide +kernel
theorem dX12_readEvent_150 : decode cX12_readEvent 150 = .ok (.iconst 4, 1) := by decide +kernel
theorem dX12_readEvent_151 : decode cX12_readEvent 151 = .ok (.dup2, 1) := by decide +kernel
theorem dX12_readEvent_152 : decode cX12_readEvent 152 = .ok (.iaload, 1) := by decide +kernel
theorem dX12_readEvent_153 : decode cX12_readEvent 153 = .ok (.iconst 1, 1) := by decide +kernel
theorem dX12_readEvent_154 : decode cX12_readEvent 154 = .ok (.iadd, 1) := by decide +kernel
theorem dX12_readEvent_155 : decode cX12_readEvent 155 = .ok (.iastore, 1) := by decide +kernel
theorem dX12_readEvent_156 : decode cX12_readEvent 156 = .ok (.return_, 1) := by decide +kernel
theorem dX12_readEvent_16 : decode cX12_readEvent 16 = .ok (.invokevirtual 199, 3) := by decide +kernel
theorem dX12_readEvent_19 : decode cX12_readEvent 19 = .ok (.istore_n 1, 1) := by decide +kernel
theorem dX12_readEvent_2 : decode cX12_readEvent 2 = .ok (.bipush 6, 2) := by decide +kernel
theorem dX12_readEvent_20 : decode cX12_readEvent 20 = .ok (.aload_n 0, 1) := by decide +kernel
theorem dX12_readEvent_21 : decode cX12_readEvent 21 = .ok (.ldc 225, 2) := by decide +kernel
theorem dX12_readEvent_23 : decode cX12_readEvent 23 = .ok (.invokevirtual 215, 3) := by decide +kernel
theorem dX12_readEvent_26 : decode cX12_readEvent 26 = .ok (.aload_n 0, 1) := by decide +kernel
theorem dX12_readEvent_27 : decode cX12_readEvent 27 = .ok (.iconst 0, 1) := by decide +kernel
theorem dX12_readEvent_28 : decode cX12_readEvent 28 = .ok (.aload_n 0, 1) := by decide +kernel
theorem dX12_readEvent_29 : decode cX12_readEvent 29 = .ok (.getfield 13, 3) := by decide +kernel
theorem dX12_readEvent_32 : decode cX12_readEvent 32 = .ok (.iconst 2, 1) := by decide +kernel
theorem dX12_readEvent_33 : decode cX12_readEvent 33 = .ok (.iaload, 1) := by decide +kernel
theorem dX12_readEvent_34 : decode cX12_readEvent 34 = .ok (.iconst 1, 1) := by decide +kernel
theorem dX12_readEvent_35 : decode cX12_readEvent 35 = .ok (.isub, 1) := by decide +kernel
theorem dX12_readEvent_36 : decode cX12_readEvent 36 = .ok (.invokevirtual 199, 3) := by decide +kernel
theorem dX12_readEvent_39 : decode cX12_readEvent 39 = .ok (.istore_n 2, 1) := by decide +kernel
theorem dX12_readEvent_4 : decode cX12_readEvent 4 = .ok (.invokevirtual 203, 3) := by decide +kernel
theorem dX12_readEvent_40 : decode cX12_readEvent 40 = .ok (.aload_n 0, 1) := by decide +kernel
theorem dX12_readEvent_41 : decode cX12_readEvent 41 = .ok (.ldc 227, 2) := by decide +kernel
theorem dX12_readEvent_43 : decode cX12_readEvent 43 = .ok (.invokevirtual 123, 3) := by decide +kernel
theorem dX12_readEvent_46 : decode cX12_readEvent 46 = .ok (.istore_n 3, 1) := by decide +kernel
theorem dX12_readEvent_47 : decode cX12_readEvent 47 = .ok (.iload_n 3, 1) := by decide +kernel
theorem dX12_readEvent_48 : decode cX12_readEvent 48 = .ok (.ifCond .ne 17, 3) := by decide +kernel
theorem dX12_readEvent_51 : decode cX12_readEvent 51 = .ok (.aload_n 0, 1) := by decide +kernel
theorem dX12_readEvent_52 : decode cX12_readEvent 52 = .ok (.ldc 229, 2) := by decide +kernel
theorem dX12_readEvent_54 : decode cX12_readEvent 54 = .ok (.invokevirtual 123, 3) := by decide +kernel
theorem dX12_readEvent_57 : decode cX12_readEvent 57 = .ok (.ifCond .ne 8, 3) := by decide +kernel
theorem dX12_readEvent_60 : decode cX12_readEvent 60 = .ok (.aload_n 0, 1) := by decide +kernel
theorem dX12_readEvent_61 : decode cX12_readEvent 61 = .ok (.iconst 2, 1) := by decide +kernel
theorem dX12_readEvent_62 : decode cX12_readEvent 62 = .ok (.invokevirtual 133, 3) := by decide +kernel
theorem dX12_readEvent_65 : decode cX12_readEvent 65 = .ok (.aload_n 0, 1) := by decide +kernel
theorem dX12_readEvent_66 : decode cX12_readEvent 66 = .ok (.getfield 108, 3) := by decide +kernel
theorem dX12_readEvent_69 : decode cX12_readEvent 69 = .ok (.ifCond .ne 7, 3) := by decide +kernel
theorem dX12_readEvent_7 : decode cX12_readEvent 7 = .ok (.ifCond .ne 4, 3) := by decide +kernel
theorem dX12_readEvent_72 : decode cX12_readEvent 72 = .ok (.aload_n 0, 1) := by decide +kernel
theorem dX12_readEvent_73 : decode cX12_readEvent 73 = .ok (.invokevirtual 127, 3) := by decide +kernel
theorem dX12_readEvent_76 : decode cX12_readEvent 76 = .ok (.aload_n 0, 1) := by decide +kernel
theorem dX12_readEvent_77 : decode cX12_readEvent 77 = .ok (.iconst 1, 1) := by decide +kernel
theorem dX12_readEvent_78 : decode cX12_readEvent 78 = .ok (.bipush 9, 2) := by decide +kernel
theorem dX12_readEvent_80 : decode cX12_readEvent 80 = .ok (.invokevirtual 199, 3) := by decide +kernel
theorem dX12_readEvent_83 : decode cX12_readEvent 83 = .ok (.istore 4, 2) := by decide +kernel
theorem dX12_readEvent_85 : decode cX12_readEvent 85 = .ok (.aload_n 0, 1) := by decide +kernel
theorem dX12_readEvent_86 : decode cX12_readEvent 86 = .ok (.getfield 108, 3) := by decide +kernel
theorem dX12_readEvent_89 : decode cX12_readEvent 89 = .ok (.ifCond .eq 4, 3) := by decide +kernel
theorem dX12_readEvent_92 : decode cX12_readEvent 92 = .ok (.return_, 1) := by decide +kernel
theorem dX12_readEvent_93 : decode cX12_readEvent 93 = .ok (.sipush 150, 3) := by decide +kernel
theorem dX12_readEvent_96 : decode cX12_readEvent 96 = .ok (.iconst 3, 1) := by decide +kernel
theorem dX12_readEvent_97 : decode cX12_readEvent 97 = .ok (.aload_n 0, 1) := by decide +kernel
theorem dX12_readEvent_98 : decode cX12_readEvent 98 = .ok (.getfield 13, 3) := by decide +kernel
theorem dX12_readZero_0 : decode cX12_readZero 0 = .ok (.aload_n 0, 1) := by decide +kernel
theorem dX12_readZero_1 : decode cX12_readZero 1 = .ok (.ldc 231, 2) := by decide +kernel
theorem dX12_readZero_10 : decode cX12_readZero 10 = .ok (.getfield 13, 3) := by decide +kernel
theorem dX12_readZero_13 : decode cX12_readZero 13 = .ok (.iconst 5, 1) := by decide +kernel
theorem dX12_readZero_14 : decode cX12_readZero 14 = .ok (.iconst 0, 1) := by decide +kernel
theorem dX12_readZero_15 : decode cX12_readZero 15 = .ok (.iastore, 1) := by decide +kernel
theorem dX12_readZero_16 : decode cX12_readZero 16 = .ok (.goto 65, 3) := by decide +kernel
theorem dX12_readZero_19 : decode cX12_readZero 19 = .ok (.aload_n 0, 1) := by decide +kernel
theorem dX12_readZero_20 : decode cX12_readZero 20 = .ok (.ldc 233, 2) := by decide +kernel
theorem dX12_readZero_22 : decode cX12_readZero 22 = .ok (.invokevirtual 130, 3) := by decide +kernel
theorem dX12_readZero_25 : decode cX12_readZero 25 = .ok (.ifCond .eq 13, 3) := by decide +kernel
theorem dX12_readZero_28 : decode cX12_readZero 28 = .ok (.aload_n 0, 1) := by decide +kernel
theorem dX12_readZero_29 : decode cX12_readZero 29 = .ok (.getfield 13, 3) := by decide +kernel
theorem dX12_readZero_3 : decode cX12_readZero 3 = .ok (.invokevirtual 130, 3) := by decide +kernel
theorem dX12_readZero_32 : decode cX12_readZero 32 = .ok (.iconst 5, 1) := by decide +kernel
theorem dX12_readZero_33 : decode cX12_readZero 33 = .ok (.iconst 1, 1) := by decide +kernel
theorem dX12_readZero_34 : decode cX12_readZero 34 = .ok (.iastore, 1) := by decide +kernel
theorem dX12_readZero_35 : decode cX12_readZero 35 = .ok (.goto 46, 3) := by decide +kernel
theorem dX12_readZero_38 : decode cX12_readZero 38 = .ok (.aload_n 0, 1) := by decide +kernel
theorem dX12_readZero_39 : decode cX12_readZero 39 = .ok (.ldc 235, 2) := by decide +kernel
theorem dX12_readZero_41 : decode cX12_readZero 41 = .ok (.invokevirtual 130, 3) := by decide +kernel
theorem dX12_readZero_44 : decode cX12_readZero 44 = .ok (.ifCond .eq 13, 3) := by decide +kernel
theorem dX12_readZero_47 : decode cX12_readZero 47 = .ok (.aload_n 0, 1) := by decide +kernel
theorem dX12_readZero_48 : decode cX12_readZero 48 = .ok (.getfield 13, 3) := by decide +kernel
theorem dX12_readZero_51 : decode cX12_readZero 51 = .ok (.iconst 5, 1) := by decide +kernel
theorem dX12_readZero_52 : decode cX12_readZero 52 = .ok (.iconst 2, 1) := by decide +kernel
theorem dX12_readZero_53 : decode cX12_readZero 53 = .ok (.iastore, 1) := by decide +kernel
theorem dX12_readZero_54 : decode cX12_readZero 54 = .ok (.goto 27, 3) := by decide +kernel
theorem dX12_readZero_57 : decode cX12_readZero 57 = .ok (.aload_n 0, 1) := by decide +kernel
theorem dX12_readZero_58 : decode cX12_readZero 58 = .ok (.ldc 237, 2) := by decide +kernel
theorem dX12_readZero_6 : decode cX12_readZero 6 = .ok (.ifCond .eq 13, 3) := by decide +kernel
theorem dX12_readZero_60 : decode cX12_readZero 60 = .ok (.invokevirtual 130, 3) := by decide +kernel
theorem dX12_readZero_63 : decode cX12_readZero 63 = .ok (.ifCond .eq 13, 3) := by decide +kernel
theorem dX12_readZero_66 : decode cX12_readZero 66 = .ok (.aload_n 0, 1) := by decide +kernel
theorem dX12_readZero_67 : decode cX12_readZero 67 = .ok (.getfield 13, 3) := by decide +kernel
theorem dX12_readZero_70 : decode cX12_readZero 70 = .ok (.iconst 5, 1) := by decide +kernel
theorem dX12_readZero_71 : decode cX12_readZero 71 = .ok (.iconst 3, 1) := by decide +kernel
theorem dX12_readZero_72 : decode cX12_readZero 72 = .ok (.iastore, 1) := by decide +kernel
theorem dX12_readZero_73 : decode cX12_readZero 73 = .ok (.goto 8, 3) := by decide +kernel
theorem dX12_readZero_76 : decode cX12_readZero 76 = .ok (.aload_n 0, 1) := by decide +kernel
theorem dX12_readZero_77 : decode cX12_readZero 77 = .ok (.iconst 2, 1) := by decide +kernel
theorem dX12_readZero_78 : decode cX12_readZero 78 = .ok (.invokevirtual 133, 3) := by decide +kernel
theorem dX12_readZero_81 : decode cX12_readZero 81 = .ok (.return_, 1) := by decide +kernel
theorem dX12_readZero_9 : decode cX12_readZero 9 = .ok (.aload_n 0, 1) := by decide +kernel
set_option maxHeartbeats 4000000 in
set_option maxRecDepth 4000 in
theorem kp_X12_readEvent (l : Launch) (M : Mem) (hJ : Iw M) (hp0 : 0 ≤ M 131 9 ∧ M 131 9 ≤ M 131 8 ∧ M 131 8 ≤ M 131 7 ∧ M 131 7 ≤ 900 ∧ (M 131 10 = 0 ∨ M 131 9 < M 131 8)) (hp1 : M 133 6 ≤ M 131 9) (hp2 : Wl M) (hp3 : M 131 16 = 0) : CV l yX12_readEvent cX12_readEvent 6 none 8 (fun ad => [.ref (ad 131)]) M (fun M' => Fr [131, 133] M M' ∧ (Wl M' ∧ M' 131 7 = M 131 7 ∧ M' 131 16 = M 131 16 ∧ M 131 9 ≤ M' 131 9 ∧ 0 ≤ M' 131 9 ∧ M' 131 9 ≤ M' 131 8 ∧ M' 131 8 ≤ M' 131 7 ∧ M' 131 7 ≤ 900 ∧ (M' 131 10 = 0 ∨ M' 131 9 < M' 131 8) ∧ M' 133 6 = M 133 6 ∧ M' 133 1 = M 133 1 ∧ (M' 131 12 = 0 → M 131 12 = 0))) := by
  obtain ⟨hI, hW⟩ := hJ
  have hF : Fr [131, 133] M M := Fr.rf
  refine en_v (by decide +kernel) (fun ad => by exact Nat.le_of_ble_eq_true rfl) (fun D cy ad A p e s m args below meth c Q F hret => ?_)
  refine z_eq (ls' := [(0, .ref (ad 131))]) rfl rfl rfl ?_
  have hL := hp2
  obtain ⟨g1, g2, g3, g4, hT⟩ := hp0
  have hT : Tk M := hT
  have kbM : 0 ≤ M 131 12 ∧ M 131 12 ≤ 4 := hI.at (show Bd 131 12 = (0, 4) from rfl)
  refine z_aload_n F dX12_readEvent_0 rfl (q := 0) rfl ?_
  refine z_iconst F dX12_readEvent_1 ?_
  refine z_bipush F dX12_readEvent_2 (by decide +kernel) ?_
  refine zv_i (rest := []) F (kp_X12_begins l M ⟨hI, hW⟩ 4 (by omega) (by omega) 6 (by omega) (by omega) ⟨by omega, by omega, by omega, by omega, hT⟩) cs_X12_203 (T := TX12) (N := 44) (ci := 12) rfl gs_131 (by decide) (by decide) rfl rfl rfl (Nat.le_of_ble_eq_true rfl) dX12_readEvent_4 (fun v1 M2 rv1 hI p3 => ?_)
  obtain ⟨hI, hW⟩ := hI
  obtain ⟨⟨av1, bv1⟩, fp3, xp3⟩ := p3
  have hF := hF.call fp3 (by decide)
  have tM2_133_6 : M2 133 6 = M 133 6 := fp3.at (by decide)
  have tM2_133_1 : M2 133 1 = M 133 1 := fp3.at (by decide)
  have tM2_133_2 : M2 133 2 = M 133 2 := fp3.at (by decide)
  have tM2_133_4 : M2 133 4 = M 133 4 := fp3.at (by decide)
  have hq9 := wl_fr fp3 (by decide)
  have hL := hq9.2 hL
  have cM2 := hq9.1
  clear hq9
  have hbv1 : M 133 (4 : Int).toNat = M 133 4 := rfl
  obtain ⟨qp3_0, qp3_1, qp3_2, qp3_3, qp3_4, qp3_5, qp3_6, qp3_7, qp3_8, qp3_9⟩ := xp3
  have kbM2 : 0 ≤ M2 131 12 ∧ M2 131 12 ≤ 4 := hI.at (show Bd 131 12 = (0, 4) from rfl)
  have hT : Tk M2 := qp3_7
  clear qp3_7
  have lbqp3_9 : M 131 12 ≤ 4 * M2 131 12 := by omega
  clear qp3_9
  refine z_if_ne (tgt := 11) F dX12_readEvent_7 (by decide +kernel) (by omega) (fun c4 => ?_) (fun c4 => ?_)
  · refine z_aload_n F dX12_readEvent_11 rfl (q := 0) rfl ?_
    refine z_iconst F dX12_readEvent_12 ?_
    refine z_sipush F dX12_readEvent_13 (by decide +kernel) ?_
    refine zv_i (rest := []) F (kp_X12_number l M2 ⟨hI, hW⟩ 0 (by omega) (by omega) 999 (by omega) (by omega) ⟨by omega, by omega, by omega, by omega, hT⟩) cs_X12_199 (T := TX12) (N := 44) (ci := 12) rfl gs_131 (by decide) (by decide) rfl rfl rfl (Nat.le_of_ble_eq_true rfl) dX12_readEvent_16 (fun v5 M6 rv5 hI p7 => ?_)
    obtain ⟨hI, hW⟩ := hI
    obtain ⟨⟨av5, bv5⟩, fp7, xp7⟩ := p7
    have hF := hF.call fp7 (by decide)
    have tM6_133_6 : M6 133 6 = M2 133 6 := fp7.at (by decide)
    have tM6_133_1 : M6 133 1 = M2 133 1 := fp7.at (by decide)
    have tM6_133_2 : M6 133 2 = M2 133 2 := fp7.at (by decide)
    have tM6_133_4 : M6 133 4 = M2 133 4 := fp7.at (by decide)
    have hq9 := wl_fr fp7 (by decide)
    have hL := hq9.2 hL
    have cM6 := hq9.1
    clear hq9
    have hkv5 : 0 ≤ v5 ∧ v5 ≤ 999 := by omega
    obtain ⟨qp7_0, qp7_1, qp7_2, qp7_3, qp7_4, qp7_5, qp7_6, qp7_7, qp7_8, qp7_9⟩ := xp7
    have kbM6 : 0 ≤ M6 131 12 ∧ M6 131 12 ≤ 4 := hI.at (show Bd 131 12 = (0, 4) from rfl)
    have hT : Tk M6 := qp7_7
    clear qp7_7
    clear qp7_8
    have lbqp7_9 : M2 131 12 ≤ 4 * M6 131 12 := by omega
    have lpqp7_9 : M2 131 9 + 1 ≤ M6 131 9 + M6 131 12 := by omega
    clear qp7_9
    refine z_istore_n F dX12_readEvent_19 rfl (by decide) (ls' := [(1, ii v5), (0, .ref (ad 131))]) rfl ?_
    refine z_aload_n F dX12_readEvent_20 rfl (q := 1) rfl ?_
    refine z_ldcS (j := 60) F dX12_readEvent_21 rfl rfl rfl ?_
    refine z_eq (st' := [.ref (ad 1060), .ref (ad 131)]) rfl rfl rfl ?_
    refine zv_v (rest := []) F (kp_X12_mustWord_131_1060 l M6 ⟨hI, hW⟩ ⟨by omega, by omega, by omega, by omega, hT⟩) cs_X12_215 (T := TX12) (N := 44) (ci := 12) rfl gs_131 (by decide) (by decide) rfl rfl rfl (Nat.le_of_ble_eq_true rfl) dX12_readEvent_23 (fun M8 hI p9 => ?_)
    obtain ⟨hI, hW⟩ := hI
    obtain ⟨fp9, xp9⟩ := p9
    have hF := hF.call fp9 (by decide)
    have tM8_133_6 : M8 133 6 = M6 133 6 := fp9.at (by decide)
    have tM8_133_1 : M8 133 1 = M6 133 1 := fp9.at (by decide)
    have tM8_133_2 : M8 133 2 = M6 133 2 := fp9.at (by decide)
    have tM8_133_4 : M8 133 4 = M6 133 4 := fp9.at (by decide)
    have hq9 := wl_fr fp9 (by decide)
    have hL := hq9.2 hL
    have cM8 := hq9.1
    clear hq9
    obtain ⟨qp9_0, qp9_1, qp9_2, qp9_3, qp9_4, qp9_5, qp9_6, qp9_7, qp9_8⟩ := xp9
    have kbM8 : 0 ≤ M8 131 12 ∧ M8 131 12 ≤ 4 := hI.at (show Bd 131 12 = (0, 4) from rfl)
    have hT : Tk M8 := qp9_7
    clear qp9_7
    have lbqp9_8 : M6 131 12 ≤ 4 * M8 131 12 := by omega
    clear qp9_8
    refine z_aload_n F dX12_readEvent_26 rfl (q := 1) rfl ?_
    refine z_iconst F dX12_readEvent_27 ?_
    refine z_aload_n F dX12_readEvent_28 rfl (q := 1) rfl ?_
    refine rf_X12_13 F gs_131 rfl dX12_readEvent_29 ?_
    refine z_iconst F dX12_readEvent_32 ?_
    refine z_iald F hI gs_133 (by omega) (by omega) (by decide) (show Bd 133 2 = (0, 8) from rfl) dX12_readEvent_33 (fun v10 (ev10 : v10 = M8 133 2) av10 bv10 => ?_)
    refine z_iconst F dX12_readEvent_34 ?_
    refine z_isub F dX12_readEvent_35 ?_
    refine zv_i (rest := []) F (kp_X12_number l M8 ⟨hI, hW⟩ 0 (by omega) (by omega) (v10 - 1) (by omega) (by omega) ⟨by omega, by omega, by omega, by omega, hT⟩) cs_X12_199 (T := TX12) (N := 44) (ci := 12) rfl gs_131 (by decide) (by decide) rfl rfl rfl (Nat.le_of_ble_eq_true rfl) dX12_readEvent_36 (fun v11 M12 rv11 hI p13 => ?_)
    obtain ⟨hI, hW⟩ := hI
    obtain ⟨⟨av11, bv11⟩, fp13, xp13⟩ := p13
    have hF := hF.call fp13 (by decide)
    have tM12_133_6 : M12 133 6 = M8 133 6 := fp13.at (by decide)
    have tM12_133_1 : M12 133 1 = M8 133 1 := fp13.at (by decide)
    have tM12_133_2 : M12 133 2 = M8 133 2 := fp13.at (by decide)
    have tM12_133_4 : M12 133 4 = M8 133 4 := fp13.at (by decide)
    have hq9 := wl_fr fp13 (by decide)
    have hL := hq9.2 hL
    have cM12 := hq9.1
    clear hq9
    have hkv11 : 0 ≤ v11 ∧ v11 ≤ 7 := by omega
    obtain ⟨qp13_0, qp13_1, qp13_2, qp13_3, qp13_4, qp13_5, qp13_6, qp13_7, qp13_8, qp13_9⟩ := xp13
    have kbM12 : 0 ≤ M12 131 12 ∧ M12 131 12 ≤ 4 := hI.at (show Bd 131 12 = (0, 4) from rfl)
    have hT : Tk M12 := qp13_7
    clear qp13_7
    clear qp13_8
    have lbqp13_9 : M8 131 12 ≤ 4 * M12 131 12 := by omega
    have lpqp13_9 : M8 131 9 + 1 ≤ M12 131 9 + M12 131 12 := by omega
    clear qp13_9
    refine z_istore_n F dX12_readEvent_39 rfl (by decide) (ls' := [(2, ii v11), (1, ii v5), (0, .ref (ad 131))]) rfl ?_
    refine z_aload_n F dX12_readEvent_40 rfl (q := 2) rfl ?_
    refine z_ldcS (j := 66) F dX12_readEvent_41 rfl rfl rfl ?_
    refine z_eq (st' := [.ref (ad 1066), .ref (ad 131)]) rfl rfl rfl ?_
    refine zv_i (rest := []) F (kp_X12_isWord_131_1066 l M12 ⟨hI, hW⟩ ⟨by omega, by omega, by omega, by omega, hT⟩) cs_X12_123 (T := TX12) (N := 44) (ci := 12) rfl gs_131 (by decide) (by decide) rfl rfl rfl (Nat.le_of_ble_eq_true rfl) dX12_readEvent_43 (fun v14 M15 rv14 hI p16 => ?_)
    obtain ⟨hI, hW⟩ := hI
    obtain ⟨⟨av14, bv14⟩, rfl, xp16⟩ := p16
    clear xp16
    refine z_istore_n F dX12_readEvent_46 rfl (by decide) (ls' := [(3, ii v14), (2, ii v11), (1, ii v5), (0, .ref (ad 131))]) rfl ?_
    have cut65 : ∀ (M17 : Mem), Inv M17 → WFk M17 → Fr [131, 133] M M17 → (0 ≤ M17 131 9 ∧ M17 131 9 ≤ M17 131 8 ∧ M17 131 8 ≤ M17 131 7 ∧ M17 131 7 ≤ 900) → (M17 131 7 = M 131 7 ∧ M17 131 16 = M 131 16 ∧ M 131 9 ≤ M17 131 9 ∧ M17 133 6 = M 133 6 ∧ M17 133 1 = M 133 1 ∧ M17 133 2 = M 133 2 ∧ M17 133 4 = M 133 4 ∧ M 131 12 ≤ 4 * M17 131 12 ∧ 0 ≤ M17 131 12 ∧ M17 131 12 ≤ 4) → (Wl M17) → (Tk M17) → Z D cy ad p l e (RMh 8) s m args below meth c A 6 0 0 Q 65 [(0, .ref (ad 131)), (1, ii v5), (2, ii v11), (3, ii v14)] [] M17 := by
      intro M17 hI hW hF j65_0 j65_1 j65_2 j65_3
      have hL := j65_2
      have hT := j65_3
      have cut76 : ∀ (M18 : Mem), Inv M18 → WFk M18 → Fr [131, 133] M M18 → (0 ≤ M18 131 9 ∧ M18 131 9 ≤ M18 131 8 ∧ M18 131 8 ≤ M18 131 7 ∧ M18 131 7 ≤ 900) → (M18 131 7 = M 131 7 ∧ M18 131 16 = M 131 16 ∧ M 131 9 ≤ M18 131 9 ∧ M18 133 6 = M 133 6 ∧ M18 133 1 = M 133 1 ∧ M18 133 2 = M 133 2 ∧ M18 133 4 = M 133 4 ∧ M 131 12 ≤ 4 * M18 131 12 ∧ 0 ≤ M18 131 12 ∧ M18 131 12 ≤ 4) → (Wl M18) → (Tk M18) → Z D cy ad p l e (RMh 8) s m args below meth c A 6 0 0 Q 76 [(0, .ref (ad 131)), (1, ii v5), (2, ii v11), (3, ii v14)] [] M18 := by
        intro M18 hI hW hF j76_0 j76_1 j76_2 j76_3
        have hL := j76_2
        have hT := j76_3
        refine z_aload_n F dX12_readEvent_76 rfl (q := 0) rfl ?_
        refine z_iconst F dX12_readEvent_77 ?_
        refine z_bipush F dX12_readEvent_78 (by decide +kernel) ?_
        refine zv_i (rest := []) F (kp_X12_number l M18 ⟨hI, hW⟩ 1 (by omega) (by omega) 9 (by omega) (by omega) ⟨by omega, by omega, by omega, by omega, hT⟩) cs_X12_199 (T := TX12) (N := 44) (ci := 12) rfl gs_131 (by decide) (by decide) rfl rfl rfl (Nat.le_of_ble_eq_true rfl) dX12_readEvent_80 (fun v19 M20 rv19 hI p21 => ?_)
        obtain ⟨hI, hW⟩ := hI
        obtain ⟨⟨av19, bv19⟩, fp21, xp21⟩ := p21
        have hF := hF.call fp21 (by decide)
        have tM20_133_6 : M20 133 6 = M18 133 6 := fp21.at (by decide)
        have tM20_133_1 : M20 133 1 = M18 133 1 := fp21.at (by decide)
        have tM20_133_2 : M20 133 2 = M18 133 2 := fp21.at (by decide)
        have tM20_133_4 : M20 133 4 = M18 133 4 := fp21.at (by decide)
        have hq9 := wl_fr fp21 (by decide)
        have hL := hq9.2 hL
        have cM20 := hq9.1
        clear hq9
        have hkv19 : 1 ≤ v19 ∧ v19 ≤ 9 := by omega
        obtain ⟨qp21_0, qp21_1, qp21_2, qp21_3, qp21_4, qp21_5, qp21_6, qp21_7, qp21_8, qp21_9⟩ := xp21
        have kbM20 : 0 ≤ M20 131 12 ∧ M20 131 12 ≤ 4 := hI.at (show Bd 131 12 = (0, 4) from rfl)
        have hT : Tk M20 := qp21_7
        clear qp21_7
        clear qp21_8
        have lbqp21_9 : M18 131 12 ≤ 4 * M20 131 12 := by omega
        have lpqp21_9 : M18 131 9 + 1 ≤ M20 131 9 + M20 131 12 := by omega
        clear qp21_9
        refine z_istore F dX12_readEvent_83 (by decide) (ls' := [(4, ii v19), (0, .ref (ad 131)), (1, ii v5), (2, ii v11), (3, ii v14)]) rfl ?_
        refine z_aload_n F dX12_readEvent_85 rfl (q := 1) rfl ?_
        refine gf_X12_108 F hI gs_131 rfl bd_131_12 dX12_readEvent_86 (fun v22 ev22 av22 bv22 => ?_)
        refine z_if_eq (tgt := 93) F dX12_readEvent_89 (by decide +kernel) (by omega) (fun c23 => ?_) (fun c23 => ?_)
        · refine z_sipush F dX12_readEvent_93 (by decide +kernel) ?_
          refine z_iconst F dX12_readEvent_96 ?_
          refine z_aload_n F dX12_readEvent_97 rfl (q := 1) rfl ?_
          refine rf_X12_13 F gs_131 rfl dX12_readEvent_98 ?_
          refine z_iconst F dX12_readEvent_101 ?_
          refine z_iald F hI gs_133 (by omega) (by omega) (by decide) (show Bd 133 4 = (0, 6) from rfl) dX12_readEvent_102 (fun v24 (ev24 : v24 = M20 133 4) av24 bv24 => ?_)
          have k25 : 0 ≤ v24 ∧ v24 ≤ 5 := by omega
          refine z_imul F dX12_readEvent_103 ?_
          refine z_iadd F dX12_readEvent_104 ?_
          refine z_nm (fun v26 ev26 => ?_)
          refine z_istore F dX12_readEvent_105 (by decide) (ls' := [(5, ii v26), (4, ii v19), (0, .ref (ad 131)), (1, ii v5), (2, ii v11), (3, ii v14)]) rfl ?_
          refine z_aload_n F dX12_readEvent_107 rfl (q := 2) rfl ?_
          refine rf_X12_13 F gs_131 rfl dX12_readEvent_108 ?_
          refine z_iload F dX12_readEvent_111 (q := 0) rfl ?_
          refine z_iload_n F dX12_readEvent_113 rfl (q := 3) rfl ?_
          refine z_iast F hI gs_133 (by omega) (by omega) (by decide) (bd_133.trans (kn_ev0 (by omega) (by omega) (by omega))) dX12_readEvent_114 (by omega) (by omega) (fun M28 hI sf27 f27 => ?_)
          have tM28_131_7 : M28 131 7 = M20 131 7 := f27 131 7 (fun q => absurd q.1 (by decide))
          have tM28_131_8 : M28 131 8 = M20 131 8 := f27 131 8 (fun q => absurd q.1 (by decide))
          have tM28_131_9 : M28 131 9 = M20 131 9 := f27 131 9 (fun q => absurd q.1 (by decide))
          have tM28_131_10 : M28 131 10 = M20 131 10 := f27 131 10 (fun q => absurd q.1 (by decide))
          have tM28_131_12 : M28 131 12 = M20 131 12 := f27 131 12 (fun q => absurd q.1 (by decide))
          have tM28_131_16 : M28 131 16 = M20 131 16 := f27 131 16 (fun q => absurd q.1 (by decide))
          have tM28_133_6 : M28 133 6 = M20 133 6 := f27 133 6 (fun q => by have := q.2; omega)
          have tM28_133_1 : M28 133 1 = M20 133 1 := f27 133 1 (fun q => by have := q.2; omega)
          have tM28_133_2 : M28 133 2 = M20 133 2 := f27 133 2 (fun q => by have := q.2; omega)
          have tM28_133_4 : M28 133 4 = M20 133 4 := f27 133 4 (fun q => by have := q.2; omega)
          have hT := tk_ws f27 (by decide) hT
          have hq9 := wl_wr f27 (by omega)
          have hL := hq9.2 hL
          have cM28 := hq9.1
          clear hq9
          have hF := hF.wr f27 (by decide) (by decide)
          have hW : WFk M28 := hW.site f27 (by decide)
          refine z_aload_n F dX12_readEvent_115 rfl (q := 2) rfl ?_
          refine rf_X12_13 F gs_131 rfl dX12_readEvent_116 ?_
          refine z_iload F dX12_readEvent_119 (q := 0) rfl ?_
          refine z_iconst F dX12_readEvent_121 ?_
          refine z_iadd F dX12_readEvent_122 ?_
          refine z_iload_n F dX12_readEvent_123 rfl (q := 4) rfl ?_
          refine z_iast F hI gs_133 (by omega) (by omega) (by decide) (bd_133.trans (kn_ev1 (by omega) (by omega) (by omega))) dX12_readEvent_124 (by omega) (by omega) (fun M30 hI sf29 f29 => ?_)
          have tM30_131_7 : M30 131 7 = M28 131 7 := f29 131 7 (fun q => absurd q.1 (by decide))
          have tM30_131_8 : M30 131 8 = M28 131 8 := f29 131 8 (fun q => absurd q.1 (by decide))
          have tM30_131_9 : M30 131 9 = M28 131 9 := f29 131 9 (fun q => absurd q.1 (by decide))
          have tM30_131_10 : M30 131 10 = M28 131 10 := f29 131 10 (fun q => absurd q.1 (by decide))
          have tM30_131_12 : M30 131 12 = M28 131 12 := f29 131 12 (fun q => absurd q.1 (by decide))
          have tM30_131_16 : M30 131 16 = M28 131 16 := f29 131 16 (fun q => absurd q.1 (by decide))
          have tM30_133_6 : M30 133 6 = M28 133 6 := f29 133 6 (fun q => by have := q.2; omega)
          have tM30_133_1 : M30 133 1 = M28 133 1 := f29 133 1 (fun q => by have := q.2; omega)
          have tM30_133_2 : M30 133 2 = M28 133 2 := f29 133 2 (fun q => by have := q.2; omega)
          have tM30_133_4 : M30 133 4 = M28 133 4 := f29 133 4 (fun q => by have := q.2; omega)
          have hT := tk_ws f29 (by decide) hT
          have hq9 := wl_wr f29 (by omega)
          have hL := hq9.2 hL
          have cM30 := hq9.1
          clear hq9
          have hF := hF.wr f29 (by decide) (by decide)
          have hW : WFk M30 := hW.site f29 (by decide)
          refine z_aload_n F dX12_readEvent_125 rfl (q := 2) rfl ?_
          refine rf_X12_13 F gs_131 rfl dX12_readEvent_126 ?_
          refine z_iload F dX12_readEvent_129 (q := 0) rfl ?_
          refine z_iconst F dX12_readEvent_131 ?_
          refine z_iadd F dX12_readEvent_132 ?_
          refine z_iload_n F dX12_readEvent_133 rfl (q := 5) rfl ?_
          refine z_if_eq (tgt := 143) F dX12_readEvent_134 (by decide +kernel) (by omega) (fun c31 => ?_) (fun c31 => ?_)
          · refine z_iload F dX12_readEvent_143 (q := 1) rfl ?_
            refine z_iast F hI gs_133 (by omega) (by omega) (by decide) (bd_133.trans (kn_ev2 (by omega) (by omega) (by omega))) dX12_readEvent_145 (by omega) (by omega) (fun M33 hI sf32 f32 => ?_)
            have tM33_131_7 : M33 131 7 = M30 131 7 := f32 131 7 (fun q => absurd q.1 (by decide))
            have tM33_131_8 : M33 131 8 = M30 131 8 := f32 131 8 (fun q => absurd q.1 (by decide))
            have tM33_131_9 : M33 131 9 = M30 131 9 := f32 131 9 (fun q => absurd q.1 (by decide))
            have tM33_131_10 : M33 131 10 = M30 131 10 := f32 131 10 (fun q => absurd q.1 (by decide))
            have tM33_131_12 : M33 131 12 = M30 131 12 := f32 131 12 (fun q => absurd q.1 (by decide))
            have tM33_131_16 : M33 131 16 = M30 131 16 := f32 131 16 (fun q => absurd q.1 (by decide))
            have tM33_133_6 : M33 133 6 = M30 133 6 := f32 133 6 (fun q => by have := q.2; omega)
            have tM33_133_1 : M33 133 1 = M30 133 1 := f32 133 1 (fun q => by have := q.2; omega)
            have tM33_133_2 : M33 133 2 = M30 133 2 := f32 133 2 (fun q => by have := q.2; omega)
            have tM33_133_4 : M33 133 4 = M30 133 4 := f32 133 4 (fun q => by have := q.2; omega)
            have hT := tk_ws f32 (by decide) hT
            have hq9 := wl_wr f32 (by omega)
            have hL := hq9.2 hL
            have cM33 := hq9.1
            clear hq9
            have hF := hF.wr f32 (by decide) (by decide)
            have hW : WFk M33 := hW.site f32 (by decide)
            refine z_aload_n F dX12_readEvent_146 rfl (q := 2) rfl ?_
            refine rf_X12_13 F gs_131 rfl dX12_readEvent_147 ?_
            refine z_iconst F dX12_readEvent_150 ?_
            refine z_dup2 F dX12_readEvent_151 rfl rfl ?_
            refine z_iald F hI gs_133 (by omega) (by omega) (by decide) (show Bd 133 4 = (0, 6) from rfl) dX12_readEvent_152 (fun v34 (ev34 : v34 = M33 133 4) av34 bv34 => ?_)
            have q35 : v24 = M28 133 4 := ev24.trans (f27 133 4 (fun q => by omega)).symm
            have q36 : v24 = M30 133 4 := q35.trans (f29 133 4 (fun q => by omega)).symm
            have q37 : v24 = M33 133 4 := q36.trans (f32 133 4 (fun q => by omega)).symm
            have zv34 : v24 = v34 := q37.trans ev34.symm
            subst zv34
            refine z_iconst F dX12_readEvent_153 ?_
            refine z_iadd F dX12_readEvent_154 ?_
            refine z_nm (fun v39 ev39 => ?_)
            refine z_iast F hI gs_133 (by omega) (by omega) (by decide) (show Bd 133 4 = (0, 6) from rfl) dX12_readEvent_155 (by omega) (by omega) (fun M40 hI sf38 f38 => ?_)
            have tM40_131_7 : M40 131 7 = M33 131 7 := f38 131 7 (fun q => absurd q.1 (by decide))
            have tM40_131_8 : M40 131 8 = M33 131 8 := f38 131 8 (fun q => absurd q.1 (by decide))
            have tM40_131_9 : M40 131 9 = M33 131 9 := f38 131 9 (fun q => absurd q.1 (by decide))
            have tM40_131_10 : M40 131 10 = M33 131 10 := f38 131 10 (fun q => absurd q.1 (by decide))
            have tM40_131_12 : M40 131 12 = M33 131 12 := f38 131 12 (fun q => absurd q.1 (by decide))
            have tM40_131_16 : M40 131 16 = M33 131 16 := f38 131 16 (fun q => absurd q.1 (by decide))
            have tM40_133_6 : M40 133 6 = M33 133 6 := f38 133 6 (fun q => absurd q.2 (by decide))
            have tM40_133_1 : M40 133 1 = M33 133 1 := f38 133 1 (fun q => absurd q.2 (by decide))
            have tM40_133_2 : M40 133 2 = M33 133 2 := f38 133 2 (fun q => absurd q.2 (by decide))
            have hT := tk_ws f38 (by decide) hT
            have hq9 := wl_wr f38 (by omega)
            have hL := hq9.2 hL
            have cM40 := hq9.1
            clear hq9
            have hF := hF.wr f38 (by decide) (by decide)
            have hW : WFk M40 := hW.site f38 (by decide)
            have sf38 : M40 133 4 = v39 := sf38
            exact hret _ 156 _ ⟨hI, hW⟩ ⟨hF, ⟨hL, by omega, by omega, by omega, by omega, by omega, by omega, by omega, hT, by omega, by omega, by omega⟩⟩ dX12_readEvent_156
          · refine z_iload F dX12_readEvent_137 (q := 1) rfl ?_
            refine z_ineg F dX12_readEvent_139 ?_
            refine z_goto (tgt := 145) F dX12_readEvent_140 (by decide +kernel) ?_
            refine z_nm (fun v42 ev42 => ?_)
            refine z_iast F hI gs_133 (by omega) (by omega) (by decide) (bd_133.trans (kn_ev2 (by omega) (by omega) (by omega))) dX12_readEvent_145 (by omega) (by omega) (fun M43 hI sf41 f41 => ?_)
            have tM43_131_7 : M43 131 7 = M30 131 7 := f41 131 7 (fun q => absurd q.1 (by decide))
            have tM43_131_8 : M43 131 8 = M30 131 8 := f41 131 8 (fun q => absurd q.1 (by decide))
            have tM43_131_9 : M43 131 9 = M30 131 9 := f41 131 9 (fun q => absurd q.1 (by decide))
            have tM43_131_10 : M43 131 10 = M30 131 10 := f41 131 10 (fun q => absurd q.1 (by decide))
            have tM43_131_12 : M43 131 12 = M30 131 12 := f41 131 12 (fun q => absurd q.1 (by decide))
            have tM43_131_16 : M43 131 16 = M30 131 16 := f41 131 16 (fun q => absurd q.1 (by decide))
            have tM43_133_6 : M43 133 6 = M30 133 6 := f41 133 6 (fun q => by have := q.2; omega)
            have tM43_133_1 : M43 133 1 = M30 133 1 := f41 133 1 (fun q => by have := q.2; omega)
            have tM43_133_2 : M43 133 2 = M30 133 2 := f41 133 2 (fun q => by have := q.2; omega)
            have tM43_133_4 : M43 133 4 = M30 133 4 := f41 133 4 (fun q => by have := q.2; omega)
            have hT := tk_ws f41 (by decide) hT
            have hq9 := wl_wr f41 (by omega)
            have hL := hq9.2 hL
            have cM43 := hq9.1
            clear hq9
            have hF := hF.wr f41 (by decide) (by decide)
            have hW : WFk M43 := hW.site f41 (by decide)
            refine z_aload_n F dX12_readEvent_146 rfl (q := 2) rfl ?_
            refine rf_X12_13 F gs_131 rfl dX12_readEvent_147 ?_
            refine z_iconst F dX12_readEvent_150 ?_
            refine z_dup2 F dX12_readEvent_151 rfl rfl ?_
            refine z_iald F hI gs_133 (by omega) (by omega) (by decide) (show Bd 133 4 = (0, 6) from rfl) dX12_readEvent_152 (fun v44 (ev44 : v44 = M43 133 4) av44 bv44 => ?_)
            have q45 : v24 = M28 133 4 := ev24.trans (f27 133 4 (fun q => by omega)).symm
            have q46 : v24 = M30 133 4 := q45.trans (f29 133 4 (fun q => by omega)).symm
            have q47 : v24 = M43 133 4 := q46.trans (f41 133 4 (fun q => by omega)).symm
            have zv44 : v24 = v44 := q47.trans ev44.symm
            subst zv44
            refine z_iconst F dX12_readEvent_153 ?_
            refine z_iadd F dX12_readEvent_154 ?_
            refine z_nm (fun v49 ev49 => ?_)
            refine z_iast F hI gs_133 (by omega) (by omega) (by decide) (show Bd 133 4 = (0, 6) from rfl) dX12_readEvent_155 (by omega) (by omega) (fun M50 hI sf48 f48 => ?_)
            have tM50_131_7 : M50 131 7 = M43 131 7 := f48 131 7 (fun q => absurd q.1 (by decide))
            have tM50_131_8 : M50 131 8 = M43 131 8 := f48 131 8 (fun q => absurd q.1 (by decide))
            have tM50_131_9 : M50 131 9 = M43 131 9 := f48 131 9 (fun q => absurd q.1 (by decide))
            have tM50_131_10 : M50 131 10 = M43 131 10 := f48 131 10 (fun q => absurd q.1 (by decide))
            have tM50_131_12 : M50 131 12 = M43 131 12 := f48 131 12 (fun q => absurd q.1 (by decide))
            have tM50_131_16 : M50 131 16 = M43 131 16 := f48 131 16 (fun q => absurd q.1 (by decide))
            have tM50_133_6 : M50 133 6 = M43 133 6 := f48 133 6 (fun q => absurd q.2 (by decide))
            have tM50_133_1 : M50 133 1 = M43 133 1 := f48 133 1 (fun q => absurd q.2 (by decide))
            have tM50_133_2 : M50 133 2 = M43 133 2 := f48 133 2 (fun q => absurd q.2 (by decide))
            have hT := tk_ws f48 (by decide) hT
            have hq9 := wl_wr f48 (by omega)
            have hL := hq9.2 hL
            have cM50 := hq9.1
            clear hq9
            have hF := hF.wr f48 (by decide) (by decide)
            have hW : WFk M50 := hW.site f48 (by decide)
            have sf48 : M50 133 4 = v49 := sf48
            exact hret _ 156 _ ⟨hI, hW⟩ ⟨hF, ⟨hL, by omega, by omega, by omega, by omega, by omega, by omega, by omega, hT, by omega, by omega, by omega⟩⟩ dX12_readEvent_156
        · exact hret _ 92 _ ⟨hI, hW⟩ ⟨hF, ⟨hL, by omega, by omega, by omega, by omega, by omega, by omega, by omega, hT, by omega, by omega, by omega⟩⟩ dX12_readEvent_92
      refine z_aload_n F dX12_readEvent_65 rfl (q := 0) rfl ?_
      refine gf_X12_108 F hI gs_131 rfl bd_131_12 dX12_readEvent_66 (fun v51 ev51 av51 bv51 => ?_)
      refine z_if_ne (tgt := 76) F dX12_readEvent_69 (by decide +kernel) (by omega) (fun c52 => ?_) (fun c52 => ?_)
      · refine z_loc [0, 1, 2, 3] (ls' := [(0, .ref (ad 131)), (1, ii v5), (2, ii v11), (3, ii v14)]) rfl ?_
        exact cut76 M17 hI hW hF (by omega) (by omega) hL hT
      · refine z_aload_n F dX12_readEvent_72 rfl (q := 0) rfl ?_
        refine zv_v (rest := []) F (kp_X12_readsOn l M17 ⟨hI, hW⟩ (by omega)) cs_X12_127 (T := TX12) (N := 44) (ci := 12) rfl gs_131 (by decide) (by decide) rfl rfl rfl (Nat.le_of_ble_eq_true rfl) dX12_readEvent_73 (fun M53 hI p54 => ?_)
        obtain ⟨hI, hW⟩ := hI
        obtain ⟨fp54, xp54⟩ := p54
        have hF := hF.call fp54 (by decide)
        have tM53_133_6 : M53 133 6 = M17 133 6 := fp54.at (by decide)
        have tM53_133_1 : M53 133 1 = M17 133 1 := fp54.at (by decide)
        have tM53_133_2 : M53 133 2 = M17 133 2 := fp54.at (by decide)
        have tM53_133_4 : M53 133 4 = M17 133 4 := fp54.at (by decide)
        have hq9 := wl_fr fp54 (by decide)
        have hL := hq9.2 hL
        have cM53 := hq9.1
        clear hq9
        obtain ⟨qp54_0, qp54_1, qp54_2, qp54_3, qp54_4, qp54_5, qp54_6, qp54_7, qp54_8⟩ := xp54
        have kbM53 : 0 ≤ M53 131 12 ∧ M53 131 12 ≤ 4 := hI.at (show Bd 131 12 = (0, 4) from rfl)
        have hT : Tk M53 := qp54_5
        clear qp54_5
        refine z_loc [0, 1, 2, 3] (ls' := [(0, .ref (ad 131)), (1, ii v5), (2, ii v11), (3, ii v14)]) rfl ?_
        exact cut76 M53 hI hW hF (by omega) (by omega) hL hT
    refine z_iload_n F dX12_readEvent_47 rfl (q := 0) rfl ?_
    refine z_if_ne (tgt := 65) F dX12_readEvent_48 (by decide +kernel) (by omega) (fun c55 => ?_) (fun c55 => ?_)
    · refine z_loc [3, 2, 1, 0] (ls' := [(0, .ref (ad 131)), (1, ii v5), (2, ii v11), (3, ii v14)]) rfl ?_
      exact cut65 M12 hI hW hF (by omega) (by omega) hL hT
    · refine z_aload_n F dX12_readEvent_51 rfl (q := 3) rfl ?_
      refine z_ldcS (j := 67) F dX12_readEvent_52 rfl rfl rfl ?_
      refine z_eq (st' := [.ref (ad 1067), .ref (ad 131)]) rfl rfl rfl ?_
      refine zv_i (rest := []) F (kp_X12_isWord_131_1067 l M12 ⟨hI, hW⟩ ⟨by omega, by omega, by omega, by omega, hT⟩) cs_X12_123 (T := TX12) (N := 44) (ci := 12) rfl gs_131 (by decide) (by decide) rfl rfl rfl (Nat.le_of_ble_eq_true rfl) dX12_readEvent_54 (fun v56 M57 rv56 hI p58 => ?_)
      obtain ⟨hI, hW⟩ := hI
      obtain ⟨⟨av56, bv56⟩, rfl, xp58⟩ := p58
      clear xp58
      refine z_if_ne (tgt := 65) F dX12_readEvent_57 (by decide +kernel) (by omega) (fun c59 => ?_) (fun c59 => ?_)
      · refine z_loc [3, 2, 1, 0] (ls' := [(0, .ref (ad 131)), (1, ii v5), (2, ii v11), (3, ii v14)]) rfl ?_
        exact cut65 M12 hI hW hF (by omega) (by omega) hL hT
      · refine z_aload_n F dX12_readEvent_60 rfl (q := 3) rfl ?_
        refine z_iconst F dX12_readEvent_61 ?_
        refine zv_v (rest := []) F (kp_X12_blames l M12 ⟨hI, hW⟩ 2 (by omega) (by omega)) cs_X12_133 (T := TX12) (N := 44) (ci := 12) rfl gs_131 (by decide) (by decide) rfl rfl rfl (Nat.le_of_ble_eq_true rfl) dX12_readEvent_62 (fun M60 hI p61 => ?_)
        obtain ⟨hI, hW⟩ := hI
        obtain ⟨fp61, xp61⟩ := p61
        have hF := hF.call fp61 (by decide)
        have tM60_133_6 : M60 133 6 = M12 133 6 := fp61.at (by decide)
        have tM60_133_1 : M60 133 1 = M12 133 1 := fp61.at (by decide)
        have tM60_133_2 : M60 133 2 = M12 133 2 := fp61.at (by decide)
        have tM60_133_4 : M60 133 4 = M12 133 4 := fp61.at (by decide)
        have hq9 := wl_fr fp61 (by decide)
        have hL := hq9.2 hL
        have cM60 := hq9.1
        clear hq9
        obtain ⟨qp61_0, qp61_1, qp61_2, qp61_3, qp61_4, qp61_5⟩ := xp61
        have kbM60 : 0 ≤ M60 131 12 ∧ M60 131 12 ≤ 4 := hI.at (show Bd 131 12 = (0, 4) from rfl)
        have hT := tk_eq hT qp61_2 qp61_3 qp61_4
        refine z_loc [3, 2, 1, 0] (ls' := [(0, .ref (ad 131)), (1, ii v5), (2, ii v11), (3, ii v14)]) rfl ?_
        exact cut65 M60 hI hW hF (by omega) (by omega) hL hT
  · exact hret _ 10 _ ⟨hI, hW⟩ ⟨hF, ⟨hL, by omega, by omega, by omega, by omega, by omega, by omega, by omega, hT, by omega, by omega, by omega⟩⟩ dX12_readEvent_10
set_option maxHeartbeats 4000000 in
set_option maxRecDepth 4000 in
theorem kp_X12_isWord_131_1069 (l : Launch) (M : Mem) (hJ : Iw M) (hp0 : 0 ≤ M 131 9 ∧ M 131 9 ≤ M 131 8 ∧ M 131 8 ≤ M 131 7 ∧ M 131 7 ≤ 900 ∧ (M 131 10 = 0 ∨ M 131 9 < M 131 8)) : CI l yX12_isWord cX12_isWord 4 (some .boolean) 5 (fun ad => [.ref (ad 131), .ref (ad 1069)]) M (fun z M' => (0 ≤ z ∧ z ≤ 1) ∧ M = M' ∧ (z = 1 → M 131 12 = 0 ∧ M 131 10 = 1)) := by
  obtain ⟨hI, hW⟩ := hJ
  refine en_z (by decide +kernel) (fun ad => by exact Nat.le_of_ble_eq_true rfl) (fun D cy ad A p e s m args below meth c Q F hret => ?_)
  refine z_eq (ls' := [(0, .ref (ad 131)), (1, .ref (ad 1069))]) rfl rfl rfl ?_
  obtain ⟨u1, eu1⟩ : ∃ v : Int, v = M 131 7 := ⟨_, rfl⟩
  have ku1 : 0 ≤ u1 ∧ u1 ≤ 900 := by have := hI.at (show Bd 131 7 = (0, 900) from rfl); omega
  obtain ⟨u2, eu2⟩ : ∃ v : Int, v = M 131 8 := ⟨_, rfl⟩
  have ku2 : 0 ≤ u2 ∧ u2 ≤ 900 := by have := hI.at (show Bd 131 8 = (0, 900) from rfl); omega
  obtain ⟨u3, eu3⟩ : ∃ v : Int, v = M 131 9 := ⟨_, rfl⟩
  have ku3 : 0 ≤ u3 ∧ u3 ≤ 900 := by have := hI.at (show Bd 131 9 = (0, 900) from rfl); omega
  obtain ⟨u4, eu4⟩ : ∃ v : Int, v = M 131 10 := ⟨_, rfl⟩
  have ku4 : (-2147483648) ≤ u4 ∧ u4 ≤ 2147483647 := by have := hI.at (show Bd 131 10 = (-2147483648, 2147483647) from rfl); omega
  obtain ⟨u5, eu5⟩ : ∃ v : Int, v = M 131 12 := ⟨_, rfl⟩
  have ku5 : 0 ≤ u5 ∧ u5 ≤ 4 := by have := hI.at (show Bd 131 12 = (0, 4) from rfl); omega
  obtain ⟨u6, eu6⟩ : ∃ v : Int, v = M 131 16 := ⟨_, rfl⟩
  have ku6 : (-2147483648) ≤ u6 ∧ u6 ≤ 2147483647 := by have := hI.at (show Bd 131 16 = (-2147483648, 2147483647) from rfl); omega
  refine z_aload_n F dX12_isWord_0 rfl (q := 0) rfl ?_
  refine gf_X12_108 F hI gs_131 rfl bd_131_12 dX12_isWord_1 (fun v7 ev7 av7 bv7 => ?_)
  have zv7 : u5 = v7 := eu5.trans ev7.symm
  subst zv7
  refine z_if_ne (tgt := 35) F dX12_isWord_4 (by decide +kernel) (by omega) (fun c8 => ?_) (fun c8 => ?_)
  · refine z_iconst F dX12_isWord_35 ?_
    refine z_istore_n F dX12_isWord_36 rfl (by decide) (ls' := [(2, ii 0), (0, .ref (ad 131)), (1, .ref (ad 1069))]) rfl ?_
    refine z_iconst F dX12_isWord_37 ?_
    refine z_istore_n F dX12_isWord_38 rfl (by decide) (ls' := [(3, ii 0), (2, ii 0), (0, .ref (ad 131)), (1, .ref (ad 1069))]) rfl ?_
    refine z_loc [2, 3, 1, 0] (ls' := [(0, .ref (ad 131)), (1, .ref (ad 1069)), (2, ii 0), (3, ii 0)]) rfl ?_
    suffices key39 : ∀ (n : Nat) (y10 : Int) (y11 : Int), 0 ≤ y10 → y10 ≤ 0 → 0 ≤ y11 → y11 ≤ 0 → (y10 = 1 → M 131 12 = 0 ∧ M 131 10 = 1 ∧ M 131 8 - M 131 9 = 4) → 0 < (n : Int) → Z D cy ad p l e (RMh 5) s m args below meth c A 4 0 0 Q 39 [(0, .ref (ad 131)), (1, .ref (ad 1069)), (2, ii y10), (3, ii y11)] [] M from key39 1 0 0 (by omega) (by omega) (by omega) (by omega) (by omega) (by omega)
    intro n39
    induction n39 with
    | zero => intro y10 y11 ay10 by10 ay11 by11 i39_0 hn39; exfalso; omega
    | succ n39 ih39 =>
      intro y10 y11 ay10 by10 ay11 by11 i39_0 hn39
      refine z_iload_n F dX12_isWord_39 rfl (q := 2) rfl ?_
      refine z_if_eq (tgt := 82) F dX12_isWord_40 (by decide +kernel) (by omega) (fun c12 => ?_) (fun c12 => by exfalso; omega)
      refine z_iload_n F dX12_isWord_82 rfl (q := 2) rfl ?_
      exact hret _ _ 83 _ ⟨by omega, by omega⟩ ⟨hI, hW⟩ ⟨⟨by omega, by omega⟩, rfl, (by omega)⟩ dX12_isWord_83
  · refine z_aload_n F dX12_isWord_7 rfl (q := 0) rfl ?_
    refine gf_X12_88 F hI gs_131 rfl bd_131_10 dX12_isWord_8 (fun v13 ev13 av13 bv13 => ?_)
    have zv13 : u4 = v13 := eu4.trans ev13.symm
    subst zv13
    refine z_iconst F dX12_isWord_11 ?_
    refine z_icmp_ne (tgt := 35) F dX12_isWord_12 (by decide +kernel) (by omega) (by omega) (fun c14 => ?_) (fun c14 => ?_)
    · refine z_iconst F dX12_isWord_35 ?_
      refine z_istore_n F dX12_isWord_36 rfl (by decide) (ls' := [(2, ii 0), (0, .ref (ad 131)), (1, .ref (ad 1069))]) rfl ?_
      refine z_iconst F dX12_isWord_37 ?_
      refine z_istore_n F dX12_isWord_38 rfl (by decide) (ls' := [(3, ii 0), (2, ii 0), (0, .ref (ad 131)), (1, .ref (ad 1069))]) rfl ?_
      refine z_loc [2, 3, 1, 0] (ls' := [(0, .ref (ad 131)), (1, .ref (ad 1069)), (2, ii 0), (3, ii 0)]) rfl ?_
      suffices key39 : ∀ (n : Nat) (y16 : Int) (y17 : Int), 0 ≤ y16 → y16 ≤ 0 → 0 ≤ y17 → y17 ≤ 0 → (y16 = 1 → M 131 12 = 0 ∧ M 131 10 = 1 ∧ M 131 8 - M 131 9 = 4) → 0 < (n : Int) → Z D cy ad p l e (RMh 5) s m args below meth c A 4 0 0 Q 39 [(0, .ref (ad 131)), (1, .ref (ad 1069)), (2, ii y16), (3, ii y17)] [] M from key39 1 0 0 (by omega) (by omega) (by omega) (by omega) (by omega) (by omega)
      intro n39
      induction n39 with
      | zero => intro y16 y17 ay16 by16 ay17 by17 i39_0 hn39; exfalso; omega
      | succ n39 ih39 =>
        intro y16 y17 ay16 by16 ay17 by17 i39_0 hn39
        refine z_iload_n F dX12_isWord_39 rfl (q := 2) rfl ?_
        refine z_if_eq (tgt := 82) F dX12_isWord_40 (by decide +kernel) (by omega) (fun c18 => ?_) (fun c18 => by exfalso; omega)
        refine z_iload_n F dX12_isWord_82 rfl (q := 2) rfl ?_
        exact hret _ _ 83 _ ⟨by omega, by omega⟩ ⟨hI, hW⟩ ⟨⟨by omega, by omega⟩, rfl, (by omega)⟩ dX12_isWord_83
    · refine z_aload_n F dX12_isWord_15 rfl (q := 0) rfl ?_
      refine gf_X12_82 F hI gs_131 rfl bd_131_8 dX12_isWord_16 (fun v19 ev19 av19 bv19 => ?_)
      have zv19 : u2 = v19 := eu2.trans ev19.symm
      subst zv19
      refine z_aload_n F dX12_isWord_19 rfl (q := 0) rfl ?_
      refine gf_X12_85 F hI gs_131 rfl bd_131_9 dX12_isWord_20 (fun v20 ev20 av20 bv20 => ?_)
      have zv20 : u3 = v20 := eu3.trans ev20.symm
      subst zv20
      refine z_isub F dX12_isWord_23 ?_
      refine z_aload_n F dX12_isWord_24 rfl (q := 1) rfl ?_
      refine zvs_i (i := 69) (rest := [ii (u2 - u3)]) F (kS_len l M ⟨hI, hW⟩ 69 (by decide)) cs_X12_114 (by decide) (by decide) (by decide) rfl rfl rfl (Nat.le_of_ble_eq_true rfl) dX12_isWord_25 (fun v21 M9 rv21 hI9 pv21 => ?_)
      obtain ⟨ev21, rfl⟩ := pv21
      obtain rfl : v21 = 4 := ev21.trans (show ((sbyt.getD 69 []).length : Int) = 4 from by decide)
      clear hI9
      refine z_icmp_ne (tgt := 35) F dX12_isWord_28 (by decide +kernel) (by omega) (by omega) (fun c22 => ?_) (fun c22 => ?_)
      · refine z_iconst F dX12_isWord_35 ?_
        refine z_istore_n F dX12_isWord_36 rfl (by decide) (ls' := [(2, ii 0), (0, .ref (ad 131)), (1, .ref (ad 1069))]) rfl ?_
        refine z_iconst F dX12_isWord_37 ?_
        refine z_istore_n F dX12_isWord_38 rfl (by decide) (ls' := [(3, ii 0), (2, ii 0), (0, .ref (ad 131)), (1, .ref (ad 1069))]) rfl ?_
        refine z_loc [2, 3, 1, 0] (ls' := [(0, .ref (ad 131)), (1, .ref (ad 1069)), (2, ii 0), (3, ii 0)]) rfl ?_
        suffices key39 : ∀ (n : Nat) (y24 : Int) (y25 : Int), 0 ≤ y24 → y24 ≤ 0 → 0 ≤ y25 → y25 ≤ 0 → (y24 = 1 → M 131 12 = 0 ∧ M 131 10 = 1 ∧ M 131 8 - M 131 9 = 4) → 0 < (n : Int) → Z D cy ad p l e (RMh 5) s m args below meth c A 4 0 0 Q 39 [(0, .ref (ad 131)), (1, .ref (ad 1069)), (2, ii y24), (3, ii y25)] [] M from key39 1 0 0 (by omega) (by omega) (by omega) (by omega) (by omega) (by omega)
        intro n39
        induction n39 with
        | zero => intro y24 y25 ay24 by24 ay25 by25 i39_0 hn39; exfalso; omega
        | succ n39 ih39 =>
          intro y24 y25 ay24 by24 ay25 by25 i39_0 hn39
          refine z_iload_n F dX12_isWord_39 rfl (q := 2) rfl ?_
          refine z_if_eq (tgt := 82) F dX12_isWord_40 (by decide +kernel) (by omega) (fun c26 => ?_) (fun c26 => by exfalso; omega)
          refine z_iload_n F dX12_isWord_82 rfl (q := 2) rfl ?_
          exact hret _ _ 83 _ ⟨by omega, by omega⟩ ⟨hI, hW⟩ ⟨⟨by omega, by omega⟩, rfl, (by omega)⟩ dX12_isWord_83
      · refine z_iconst F dX12_isWord_31 ?_
        refine z_goto (tgt := 36) F dX12_isWord_32 (by decide +kernel) ?_
        refine z_istore_n F dX12_isWord_36 rfl (by decide) (ls' := [(2, ii 1), (0, .ref (ad 131)), (1, .ref (ad 1069))]) rfl ?_
        refine z_iconst F dX12_isWord_37 ?_
        refine z_istore_n F dX12_isWord_38 rfl (by decide) (ls' := [(3, ii 0), (2, ii 1), (0, .ref (ad 131)), (1, .ref (ad 1069))]) rfl ?_
        refine z_loc [2, 3, 1, 0] (ls' := [(0, .ref (ad 131)), (1, .ref (ad 1069)), (2, ii 1), (3, ii 0)]) rfl ?_
        suffices key39 : ∀ (n : Nat) (y28 : Int) (y29 : Int), 0 ≤ y28 → y28 ≤ 1 → 0 ≤ y29 → y29 ≤ 4 → (y28 = 1 → M 131 12 = 0 ∧ M 131 10 = 1 ∧ M 131 8 - M 131 9 = 4) → 4 - y29 < (n : Int) → Z D cy ad p l e (RMh 5) s m args below meth c A 4 0 0 Q 39 [(0, .ref (ad 131)), (1, .ref (ad 1069)), (2, ii y28), (3, ii y29)] [] M from key39 5 1 0 (by omega) (by omega) (by omega) (by omega) (by omega) (by omega)
        intro n39
        induction n39 with
        | zero => intro y28 y29 ay28 by28 ay29 by29 i39_0 hn39; exfalso; omega
        | succ n39 ih39 =>
          intro y28 y29 ay28 by28 ay29 by29 i39_0 hn39
          refine z_iload_n F dX12_isWord_39 rfl (q := 2) rfl ?_
          refine z_if_eq (tgt := 82) F dX12_isWord_40 (by decide +kernel) (by omega) (fun c30 => ?_) (fun c30 => ?_)
          · refine z_iload_n F dX12_isWord_82 rfl (q := 2) rfl ?_
            exact hret _ _ 83 _ ⟨by omega, by omega⟩ ⟨hI, hW⟩ ⟨⟨by omega, by omega⟩, rfl, (by omega)⟩ dX12_isWord_83
          · refine z_iload_n F dX12_isWord_43 rfl (q := 3) rfl ?_
            refine z_aload_n F dX12_isWord_44 rfl (q := 1) rfl ?_
            refine zvs_i (i := 69) (rest := [ii y29]) F (kS_len l M ⟨hI, hW⟩ 69 (by decide)) cs_X12_114 (by decide) (by decide) (by decide) rfl rfl rfl (Nat.le_of_ble_eq_true rfl) dX12_isWord_45 (fun v31 M9 rv31 hI9 pv31 => ?_)
            obtain ⟨ev31, rfl⟩ := pv31
            obtain rfl : v31 = 4 := ev31.trans (show ((sbyt.getD 69 []).length : Int) = 4 from by decide)
            clear hI9
            refine z_icmp_ge (tgt := 82) F dX12_isWord_48 (by decide +kernel) (by omega) (by omega) (fun c32 => ?_) (fun c32 => ?_)
            · refine z_iload_n F dX12_isWord_82 rfl (q := 2) rfl ?_
              exact hret _ _ 83 _ ⟨by omega, by omega⟩ ⟨hI, hW⟩ ⟨⟨by omega, by omega⟩, rfl, (by omega)⟩ dX12_isWord_83
            · refine z_aload_n F dX12_isWord_51 rfl (q := 0) rfl ?_
              refine rf_X12_23 F gs_131 rfl dX12_isWord_52 ?_
              refine z_aload_n F dX12_isWord_55 rfl (q := 0) rfl ?_
              refine gf_X12_85 F hI gs_131 rfl bd_131_9 dX12_isWord_56 (fun v33 ev33 av33 bv33 => ?_)
              have zv33 : u3 = v33 := eu3.trans ev33.symm
              subst zv33
              refine z_iload_n F dX12_isWord_59 rfl (q := 3) rfl ?_
              refine z_iadd F dX12_isWord_60 ?_
              have k34 : 0 ≤ (u3 + y29) ∧ (u3 + y29) ≤ 899 := by omega
              refine z_iald F hI gs_136 (by omega) (by omega) (by decide) bd_136 dX12_isWord_61 (fun v35 (ev35 : v35 = M 136 _) av35 bv35 => ?_)
              refine z_aload_n F dX12_isWord_62 rfl (q := 1) rfl ?_
              refine z_iload_n F dX12_isWord_63 rfl (q := 3) rfl ?_
              refine zvs_i (i := 69) (rest := [ii v35]) F (kS_chr l M ⟨hI, hW⟩ 69 (by decide) y29 (by omega) (show y29 < ((sbyt.getD 69 []).length : Int) from by rw [show ((sbyt.getD 69 []).length : Int) = 4 from by decide]; omega)) cs_X12_119 (by decide) (by decide) (by decide) rfl rfl rfl (Nat.le_of_ble_eq_true rfl) dX12_isWord_64 (fun v36 M9 rv36 hI9 pv36 => ?_)
              obtain ⟨⟨av36, bv36⟩, rfl⟩ := pv36
              clear hI9
              refine z_icmp_ne (tgt := 74) F dX12_isWord_67 (by decide +kernel) (by omega) (by omega) (fun c37 => ?_) (fun c37 => ?_)
              · refine z_iconst F dX12_isWord_74 ?_
                refine z_istore_n F dX12_isWord_75 rfl (by decide) (ls' := [(2, ii 0), (0, .ref (ad 131)), (1, .ref (ad 1069)), (3, ii y29)]) rfl ?_
                refine z_iincN F dX12_isWord_76 (q := 3) rfl (by decide) (fun v38 ev38 => ?_)
                refine z_eq (ls' := [(3, ii v38), (2, ii 0), (0, .ref (ad 131)), (1, .ref (ad 1069))]) rfl rfl rfl ?_
                refine z_goto (tgt := 39) F dX12_isWord_79 (by decide +kernel) ?_
                refine z_loc [2, 3, 1, 0] (ls' := [(0, .ref (ad 131)), (1, .ref (ad 1069)), (2, ii 0), (3, ii v38)]) rfl ?_
                exact ih39 0 v38 (by omega) (by omega) (by omega) (by omega) (by omega) (by omega)
              · refine z_iconst F dX12_isWord_70 ?_
                refine z_goto (tgt := 75) F dX12_isWord_71 (by decide +kernel) ?_
                refine z_istore_n F dX12_isWord_75 rfl (by decide) (ls' := [(2, ii 1), (0, .ref (ad 131)), (1, .ref (ad 1069)), (3, ii y29)]) rfl ?_
                refine z_iincN F dX12_isWord_76 (q := 3) rfl (by decide) (fun v39 ev39 => ?_)
                refine z_eq (ls' := [(3, ii v39), (2, ii 1), (0, .ref (ad 131)), (1, .ref (ad 1069))]) rfl rfl rfl ?_
                refine z_goto (tgt := 39) F dX12_isWord_79 (by decide +kernel) ?_
                refine z_loc [2, 3, 1, 0] (ls' := [(0, .ref (ad 131)), (1, .ref (ad 1069)), (2, ii 1), (3, ii v39)]) rfl ?_
                exact ih39 1 v39 (by omega) (by omega) (by omega) (by omega) (by omega) (by omega)
set_option maxHeartbeats 4000000 in
set_option maxRecDepth 4000 in
theorem kp_X12_took_131_1069 (l : Launch) (M : Mem) (hJ : Iw M) (hp0 : 0 ≤ M 131 9 ∧ M 131 9 ≤ M 131 8 ∧ M 131 8 ≤ M 131 7 ∧ M 131 7 ≤ 900 ∧ (M 131 10 = 0 ∨ M 131 9 < M 131 8)) : CI l yX12_took cX12_took 3 (some .boolean) 6 (fun ad => [.ref (ad 131), .ref (ad 1069)]) M (fun z M' => (0 ≤ z ∧ z ≤ 1) ∧ Fr [131] M M' ∧ (M' 131 7 = M 131 7 ∧ M' 131 16 = M 131 16 ∧ M 131 9 ≤ M' 131 9 ∧ 0 ≤ M' 131 9 ∧ M' 131 9 ≤ M' 131 8 ∧ M' 131 8 ≤ M' 131 7 ∧ M' 131 7 ≤ 900 ∧ (M' 131 10 = 0 ∨ M' 131 9 < M' 131 8) ∧ M' 131 12 = M 131 12 ∧ (z = 1 → M 131 12 = 0 ∧ M 131 9 < M' 131 9))) := by
  obtain ⟨hI, hW⟩ := hJ
  have hF : Fr [131] M M := Fr.rf
  refine en_z (by decide +kernel) (fun ad => by exact Nat.le_of_ble_eq_true rfl) (fun D cy ad A p e s m args below meth c Q F hret => ?_)
  refine z_eq (ls' := [(0, .ref (ad 131)), (1, .ref (ad 1069))]) rfl rfl rfl ?_
  refine z_aload_n F dX12_took_0 rfl (q := 0) rfl ?_
  refine z_aload_n F dX12_took_1 rfl (q := 1) rfl ?_
  refine zv_i (rest := []) F (kp_X12_isWord_131_1069 l M ⟨hI, hW⟩ (by omega)) cs_X12_123 (T := TX12) (N := 44) (ci := 12) rfl gs_131 (by decide) (by decide) rfl rfl rfl (Nat.le_of_ble_eq_true rfl) dX12_took_2 (fun v1 M2 rv1 hI p3 => ?_)
  obtain ⟨hI, hW⟩ := hI
  obtain ⟨⟨av1, bv1⟩, rfl, xp3⟩ := p3
  refine z_istore_n F dX12_took_5 rfl (by decide) (ls' := [(2, ii v1), (0, .ref (ad 131)), (1, .ref (ad 1069))]) rfl ?_
  refine z_iload_n F dX12_took_6 rfl (q := 0) rfl ?_
  refine z_if_eq (tgt := 14) F dX12_took_7 (by decide +kernel) (by omega) (fun c4 => ?_) (fun c4 => ?_)
  · refine z_iload_n F dX12_took_14 rfl (q := 0) rfl ?_
    exact hret _ _ 15 _ ⟨by omega, by omega⟩ ⟨hI, hW⟩ ⟨⟨by omega, by omega⟩, hF, (by omega)⟩ dX12_took_15
  · refine z_aload_n F dX12_took_10 rfl (q := 1) rfl ?_
    refine zv_v (rest := []) F (kp_X12_readsOn l M ⟨hI, hW⟩ (by omega)) cs_X12_127 (T := TX12) (N := 44) (ci := 12) rfl gs_131 (by decide) (by decide) rfl rfl rfl (Nat.le_of_ble_eq_true rfl) dX12_took_11 (fun M5 hI p6 => ?_)
    obtain ⟨hI, hW⟩ := hI
    obtain ⟨fp6, xp6⟩ := p6
    have hF := hF.call fp6 (by decide)
    have tM5_133_6 : M5 133 6 = M 133 6 := fp6.at (by decide)
    have tM5_133_1 : M5 133 1 = M 133 1 := fp6.at (by decide)
    refine z_iload_n F dX12_took_14 rfl (q := 0) rfl ?_
    exact hret _ _ 15 _ ⟨by omega, by omega⟩ ⟨hI, hW⟩ ⟨⟨by omega, by omega⟩, hF, (by omega)⟩ dX12_took_15
set_option maxHeartbeats 4000000 in
set_option maxRecDepth 4000 in
theorem kp_X12_isWord_131_1070 (l : Launch) (M : Mem) (hJ : Iw M) (hp0 : 0 ≤ M 131 9 ∧ M 131 9 ≤ M 131 8 ∧ M 131 8 ≤ M 131 7 ∧ M 131 7 ≤ 900 ∧ (M 131 10 = 0 ∨ M 131 9 < M 131 8)) : CI l yX12_isWord cX12_isWord 4 (some .boolean) 5 (fun ad => [.ref (ad 131), .ref (ad 1070)]) M (fun z M' => (0 ≤ z ∧ z ≤ 1) ∧ M = M' ∧ (z = 1 → M 131 12 = 0 ∧ M 131 10 = 1)) := by
  obtain ⟨hI, hW⟩ := hJ
  refine en_z (by decide +kernel) (fun ad => by exact Nat.le_of_ble_eq_true rfl) (fun D cy ad A p e s m args below meth c Q F hret => ?_)
  refine z_eq (ls' := [(0, .ref (ad 131)), (1, .ref (ad 1070))]) rfl rfl rfl ?_
  obtain ⟨u1, eu1⟩ : ∃ v : Int, v = M 131 7 := ⟨_, rfl⟩
  have ku1 : 0 ≤ u1 ∧ u1 ≤ 900 := by have := hI.at (show Bd 131 7 = (0, 900) from rfl); omega
  obtain ⟨u2, eu2⟩ : ∃ v : Int, v = M 131 8 := ⟨_, rfl⟩
  have ku2 : 0 ≤ u2 ∧ u2 ≤ 900 := by have := hI.at (show Bd 131 8 = (0, 900) from rfl); omega
  obtain ⟨u3, eu3⟩ : ∃ v : Int, v = M 131 9 := ⟨_, rfl⟩
  have ku3 : 0 ≤ u3 ∧ u3 ≤ 900 := by have := hI.at (show Bd 131 9 = (0, 900) from rfl); omega
  obtain ⟨u4, eu4⟩ : ∃ v : Int, v = M 131 10 := ⟨_, rfl⟩
  have ku4 : (-2147483648) ≤ u4 ∧ u4 ≤ 2147483647 := by have := hI.at (show Bd 131 10 = (-2147483648, 2147483647) from rfl); omega
  obtain ⟨u5, eu5⟩ : ∃ v : Int, v = M 131 12 := ⟨_, rfl⟩
  have ku5 : 0 ≤ u5 ∧ u5 ≤ 4 := by have := hI.at (show Bd 131 12 = (0, 4) from rfl); omega
  obtain ⟨u6, eu6⟩ : ∃ v : Int, v = M 131 16 := ⟨_, rfl⟩
  have ku6 : (-2147483648) ≤ u6 ∧ u6 ≤ 2147483647 := by have := hI.at (show Bd 131 16 = (-2147483648, 2147483647) from rfl); omega
  refine z_aload_n F dX12_isWord_0 rfl (q := 0) rfl ?_
  refine gf_X12_108 F hI gs_131 rfl bd_131_12 dX12_isWord_1 (fun v7 ev7 av7 bv7 => ?_)
  have zv7 : u5 = v7 := eu5.trans ev7.symm
  subst zv7
  refine z_if_ne (tgt := 35) F dX12_isWord_4 (by decide +kernel) (by omega) (fun c8 => ?_) (fun c8 => ?_)
  · refine z_iconst F dX12_isWord_35 ?_
    refine z_istore_n F dX12_isWord_36 rfl (by decide) (ls' := [(2, ii 0), (0, .ref (ad 131)), (1, .ref (ad 1070))]) rfl ?_
    refine z_iconst F dX12_isWord_37 ?_
    refine z_istore_n F dX12_isWord_38 rfl (by decide) (ls' := [(3, ii 0), (2, ii 0), (0, .ref (ad 131)), (1, .ref (ad 1070))]) rfl ?_
    refine z_loc [2, 3, 1, 0] (ls' := [(0, .ref (ad 131)), (1, .ref (ad 1070)), (2, ii 0), (3, ii 0)]) rfl ?_
    suffices key39 : ∀ (n : Nat) (y10 : Int) (y11 : Int), 0 ≤ y10 → y10 ≤ 0 → 0 ≤ y11 → y11 ≤ 0 → (y10 = 1 → M 131 12 = 0 ∧ M 131 10 = 1 ∧ M 131 8 - M 131 9 = 3) → 0 < (n : Int) → Z D cy ad p l e (RMh 5) s m args below meth c A 4 0 0 Q 39 [(0, .ref (ad 131)), (1, .ref (ad 1070)), (2, ii y10), (3, ii y11)] [] M from key39 1 0 0 (by omega) (by omega) (by omega) (by omega) (by omega) (by omega)
    intro n39
    induction n39 with
    | zero => intro y10 y11 ay10 by10 ay11 by11 i39_0 hn39; exfalso; omega
    | succ n39 ih39 =>
      intro y10 y11 ay10 by10 ay11 by11 i39_0 hn39
      refine z_iload_n F dX12_isWord_39 rfl (q := 2) rfl ?_
      refine z_if_eq (tgt := 82) F dX12_isWord_40 (by decide +kernel) (by omega) (fun c12 => ?_) (fun c12 => by exfalso; omega)
      refine z_iload_n F dX12_isWord_82 rfl (q := 2) rfl ?_
      exact hret _ _ 83 _ ⟨by omega, by omega⟩ ⟨hI, hW⟩ ⟨⟨by omega, by omega⟩, rfl, (by omega)⟩ dX12_isWord_83
  · refine z_aload_n F dX12_isWord_7 rfl (q := 0) rfl ?_
    refine gf_X12_88 F hI gs_131 rfl bd_131_10 dX12_isWord_8 (fun v13 ev13 av13 bv13 => ?_)
    have zv13 : u4 = v13 := eu4.trans ev13.symm
    subst zv13
    refine z_iconst F dX12_isWord_11 ?_
    refine z_icmp_ne (tgt := 35) F dX12_isWord_12 (by decide +kernel) (by omega) (by omega) (fun c14 => ?_) (fun c14 => ?_)
    · refine z_iconst F dX12_isWord_35 ?_
      refine z_istore_n F dX12_isWord_36 rfl (by decide) (ls' := [(2, ii 0), (0, .ref (ad 131)), (1, .ref (ad 1070))]) rfl ?_
      refine z_iconst F dX12_isWord_37 ?_
      refine z_istore_n F dX12_isWord_38 rfl (by decide) (ls' := [(3, ii 0), (2, ii 0), (0, .ref (ad 131)), (1, .ref (ad 1070))]) rfl ?_
      refine z_loc [2, 3, 1, 0] (ls' := [(0, .ref (ad 131)), (1, .ref (ad 1070)), (2, ii 0), (3, ii 0)]) rfl ?_
      suffices key39 : ∀ (n : Nat) (y16 : Int) (y17 : Int), 0 ≤ y16 → y16 ≤ 0 → 0 ≤ y17 → y17 ≤ 0 → (y16 = 1 → M 131 12 = 0 ∧ M 131 10 = 1 ∧ M 131 8 - M 131 9 = 3) → 0 < (n : Int) → Z D cy ad p l e (RMh 5) s m args below meth c A 4 0 0 Q 39 [(0, .ref (ad 131)), (1, .ref (ad 1070)), (2, ii y16), (3, ii y17)] [] M from key39 1 0 0 (by omega) (by omega) (by omega) (by omega) (by omega) (by omega)
      intro n39
      induction n39 with
      | zero => intro y16 y17 ay16 by16 ay17 by17 i39_0 hn39; exfalso; omega
      | succ n39 ih39 =>
        intro y16 y17 ay16 by16 ay17 by17 i39_0 hn39
        refine z_iload_n F dX12_isWord_39 rfl (q := 2) rfl ?_
        refine z_if_eq (tgt := 82) F dX12_isWord_40 (by decide +kernel) (by omega) (fun c18 => ?_) (fun c18 => by exfalso; omega)
        refine z_iload_n F dX12_isWord_82 rfl (q := 2) rfl ?_
        exact hret _ _ 83 _ ⟨by omega, by omega⟩ ⟨hI, hW⟩ ⟨⟨by omega, by omega⟩, rfl, (by omega)⟩ dX12_isWord_83
    · refine z_aload_n F dX12_isWord_15 rfl (q := 0) rfl ?_
      refine gf_X12_82 F hI gs_131 rfl bd_131_8 dX12_isWord_16 (fun v19 ev19 av19 bv19 => ?_)
      have zv19 : u2 = v19 := eu2.trans ev19.symm
      subst zv19
      refine z_aload_n F dX12_isWord_19 rfl (q := 0) rfl ?_
      refine gf_X12_85 F hI gs_131 rfl bd_131_9 dX12_isWord_20 (fun v20 ev20 av20 bv20 => ?_)
      have zv20 : u3 = v20 := eu3.trans ev20.symm
      subst zv20
      refine z_isub F dX12_isWord_23 ?_
      refine z_aload_n F dX12_isWord_24 rfl (q := 1) rfl ?_
      refine zvs_i (i := 70) (rest := [ii (u2 - u3)]) F (kS_len l M ⟨hI, hW⟩ 70 (by decide)) cs_X12_114 (by decide) (by decide) (by decide) rfl rfl rfl (Nat.le_of_ble_eq_true rfl) dX12_isWord_25 (fun v21 M9 rv21 hI9 pv21 => ?_)
      obtain ⟨ev21, rfl⟩ := pv21
      obtain rfl : v21 = 3 := ev21.trans (show ((sbyt.getD 70 []).length : Int) = 3 from by decide)
      clear hI9
      refine z_icmp_ne (tgt := 35) F dX12_isWord_28 (by decide +kernel) (by omega) (by omega) (fun c22 => ?_) (fun c22 => ?_)
      · refine z_iconst F dX12_isWord_35 ?_
        refine z_istore_n F dX12_isWord_36 rfl (by decide) (ls' := [(2, ii 0), (0, .ref (ad 131)), (1, .ref (ad 1070))]) rfl ?_
        refine z_iconst F dX12_isWord_37 ?_
        refine z_istore_n F dX12_isWord_38 rfl (by decide) (ls' := [(3, ii 0), (2, ii 0), (0, .ref (ad 131)), (1, .ref (ad 1070))]) rfl ?_
        refine z_loc [2, 3, 1, 0] (ls' := [(0, .ref (ad 131)), (1, .ref (ad 1070)), (2, ii 0), (3, ii 0)]) rfl ?_
        suffices key39 : ∀ (n : Nat) (y24 : Int) (y25 : Int), 0 ≤ y24 → y24 ≤ 0 → 0 ≤ y25 → y25 ≤ 0 → (y24 = 1 → M 131 12 = 0 ∧ M 131 10 = 1 ∧ M 131 8 - M 131 9 = 3) → 0 < (n : Int) → Z D cy ad p l e (RMh 5) s m args below meth c A 4 0 0 Q 39 [(0, .ref (ad 131)), (1, .ref (ad 1070)), (2, ii y24), (3, ii y25)] [] M from key39 1 0 0 (by omega) (by omega) (by omega) (by omega) (by omega) (by omega)
        intro n39
        induction n39 with
        | zero => intro y24 y25 ay24 by24 ay25 by25 i39_0 hn39; exfalso; omega
        | succ n39 ih39 =>
          intro y24 y25 ay24 by24 ay25 by25 i39_0 hn39
          refine z_iload_n F dX12_isWord_39 rfl (q := 2) rfl ?_
          refine z_if_eq (tgt := 82) F dX12_isWord_40 (by decide +kernel) (by omega) (fun c26 => ?_) (fun c26 => by exfalso; omega)
          refine z_iload_n F dX12_isWord_82 rfl (q := 2) rfl ?_
          exact hret _ _ 83 _ ⟨by omega, by omega⟩ ⟨hI, hW⟩ ⟨⟨by omega, by omega⟩, rfl, (by omega)⟩ dX12_isWord_83
      · refine z_iconst F dX12_isWord_31 ?_
        refine z_goto (tgt := 36) F dX12_isWord_32 (by decide +kernel) ?_
        refine z_istore_n F dX12_isWord_36 rfl (by decide) (ls' := [(2, ii 1), (0, .ref (ad 131)), (1, .ref (ad 1070))]) rfl ?_
        refine z_iconst F dX12_isWord_37 ?_
        refine z_istore_n F dX12_isWord_38 rfl (by decide) (ls' := [(3, ii 0), (2, ii 1), (0, .ref (ad 131)), (1, .ref (ad 1070))]) rfl ?_
        refine z_loc [2, 3, 1, 0] (ls' := [(0, .ref (ad 131)), (1, .ref (ad 1070)), (2, ii 1), (3, ii 0)]) rfl ?_
        suffices key39 : ∀ (n : Nat) (y28 : Int) (y29 : Int), 0 ≤ y28 → y28 ≤ 1 → 0 ≤ y29 → y29 ≤ 3 → (y28 = 1 → M 131 12 = 0 ∧ M 131 10 = 1 ∧ M 131 8 - M 131 9 = 3) → 3 - y29 < (n : Int) → Z D cy ad p l e (RMh 5) s m args below meth c A 4 0 0 Q 39 [(0, .ref (ad 131)), (1, .ref (ad 1070)), (2, ii y28), (3, ii y29)] [] M from key39 4 1 0 (by omega) (by omega) (by omega) (by omega) (by omega) (by omega)
        intro n39
        induction n39 with
        | zero => intro y28 y29 ay28 by28 ay29 by29 i39_0 hn39; exfalso; omega
        | succ n39 ih39 =>
          intro y28 y29 ay28 by28 ay29 by29 i39_0 hn39
          refine z_iload_n F dX12_isWord_39 rfl (q := 2) rfl ?_
          refine z_if_eq (tgt := 82) F dX12_isWord_40 (by decide +kernel) (by omega) (fun c30 => ?_) (fun c30 => ?_)
          · refine z_iload_n F dX12_isWord_82 rfl (q := 2) rfl ?_
            exact hret _ _ 83 _ ⟨by omega, by omega⟩ ⟨hI, hW⟩ ⟨⟨by omega, by omega⟩, rfl, (by omega)⟩ dX12_isWord_83
          · refine z_iload_n F dX12_isWord_43 rfl (q := 3) rfl ?_
            refine z_aload_n F dX12_isWord_44 rfl (q := 1) rfl ?_
            refine zvs_i (i := 70) (rest := [ii y29]) F (kS_len l M ⟨hI, hW⟩ 70 (by decide)) cs_X12_114 (by decide) (by decide) (by decide) rfl rfl rfl (Nat.le_of_ble_eq_true rfl) dX12_isWord_45 (fun v31 M9 rv31 hI9 pv31 => ?_)
            obtain ⟨ev31, rfl⟩ := pv31
            obtain rfl : v31 = 3 := ev31.trans (show ((sbyt.getD 70 []).length : Int) = 3 from by decide)
            clear hI9
            refine z_icmp_ge (tgt := 82) F dX12_isWord_48 (by decide +kernel) (by omega) (by omega) (fun c32 => ?_) (fun c32 => ?_)
            · refine z_iload_n F dX12_isWord_82 rfl (q := 2) rfl ?_
              exact hret _ _ 83 _ ⟨by omega, by omega⟩ ⟨hI, hW⟩ ⟨⟨by omega, by omega⟩, rfl, (by omega)⟩ dX12_isWord_83
            · refine z_aload_n F dX12_isWord_51 rfl (q := 0) rfl ?_
              refine rf_X12_23 F gs_131 rfl dX12_isWord_52 ?_
              refine z_aload_n F dX12_isWord_55 rfl (q := 0) rfl ?_
              refine gf_X12_85 F hI gs_131 rfl bd_131_9 dX12_isWord_56 (fun v33 ev33 av33 bv33 => ?_)
              have zv33 : u3 = v33 := eu3.trans ev33.symm
              subst zv33
              refine z_iload_n F dX12_isWord_59 rfl (q := 3) rfl ?_
              refine z_iadd F dX12_isWord_60 ?_
              have k34 : 0 ≤ (u3 + y29) ∧ (u3 + y29) ≤ 899 := by omega
              refine z_iald F hI gs_136 (by omega) (by omega) (by decide) bd_136 dX12_isWord_61 (fun v35 (ev35 : v35 = M 136 _) av35 bv35 => ?_)
              refine z_aload_n F dX12_isWord_62 rfl (q := 1) rfl ?_
              refine z_iload_n F dX12_isWord_63 rfl (q := 3) rfl ?_
              refine zvs_i (i := 70) (rest := [ii v35]) F (kS_chr l M ⟨hI, hW⟩ 70 (by decide) y29 (by omega) (show y29 < ((sbyt.getD 70 []).length : Int) from by rw [show ((sbyt.getD 70 []).length : Int) = 3 from by decide]; omega)) cs_X12_119 (by decide) (by decide) (by decide) rfl rfl rfl (Nat.le_of_ble_eq_true rfl) dX12_isWord_64 (fun v36 M9 rv36 hI9 pv36 => ?_)
              obtain ⟨⟨av36, bv36⟩, rfl⟩ := pv36
              clear hI9
              refine z_icmp_ne (tgt := 74) F dX12_isWord_67 (by decide +kernel) (by omega) (by omega) (fun c37 => ?_) (fun c37 => ?_)
              · refine z_iconst F dX12_isWord_74 ?_
                refine z_istore_n F dX12_isWord_75 rfl (by decide) (ls' := [(2, ii 0), (0, .ref (ad 131)), (1, .ref (ad 1070)), (3, ii y29)]) rfl ?_
                refine z_iincN F dX12_isWord_76 (q := 3) rfl (by decide) (fun v38 ev38 => ?_)
                refine z_eq (ls' := [(3, ii v38), (2, ii 0), (0, .ref (ad 131)), (1, .ref (ad 1070))]) rfl rfl rfl ?_
                refine z_goto (tgt := 39) F dX12_isWord_79 (by decide +kernel) ?_
                refine z_loc [2, 3, 1, 0] (ls' := [(0, .ref (ad 131)), (1, .ref (ad 1070)), (2, ii 0), (3, ii v38)]) rfl ?_
                exact ih39 0 v38 (by omega) (by omega) (by omega) (by omega) (by omega) (by omega)
              · refine z_iconst F dX12_isWord_70 ?_
                refine z_goto (tgt := 75) F dX12_isWord_71 (by decide +kernel) ?_
                refine z_istore_n F dX12_isWord_75 rfl (by decide) (ls' := [(2, ii 1), (0, .ref (ad 131)), (1, .ref (ad 1070)), (3, ii y29)]) rfl ?_
                refine z_iincN F dX12_isWord_76 (q := 3) rfl (by decide) (fun v39 ev39 => ?_)
                refine z_eq (ls' := [(3, ii v39), (2, ii 1), (0, .ref (ad 131)), (1, .ref (ad 1070))]) rfl rfl rfl ?_
                refine z_goto (tgt := 39) F dX12_isWord_79 (by decide +kernel) ?_
                refine z_loc [2, 3, 1, 0] (ls' := [(0, .ref (ad 131)), (1, .ref (ad 1070)), (2, ii 1), (3, ii v39)]) rfl ?_
                exact ih39 1 v39 (by omega) (by omega) (by omega) (by omega) (by omega) (by omega)
set_option maxHeartbeats 4000000 in
set_option maxRecDepth 4000 in
theorem kp_X12_took_131_1070 (l : Launch) (M : Mem) (hJ : Iw M) (hp0 : 0 ≤ M 131 9 ∧ M 131 9 ≤ M 131 8 ∧ M 131 8 ≤ M 131 7 ∧ M 131 7 ≤ 900 ∧ (M 131 10 = 0 ∨ M 131 9 < M 131 8)) : CI l yX12_took cX12_took 3 (some .boolean) 6 (fun ad => [.ref (ad 131), .ref (ad 1070)]) M (fun z M' => (0 ≤ z ∧ z ≤ 1) ∧ Fr [131] M M' ∧ (M' 131 7 = M 131 7 ∧ M' 131 16 = M 131 16 ∧ M 131 9 ≤ M' 131 9 ∧ 0 ≤ M' 131 9 ∧ M' 131 9 ≤ M' 131 8 ∧ M' 131 8 ≤ M' 131 7 ∧ M' 131 7 ≤ 900 ∧ (M' 131 10 = 0 ∨ M' 131 9 < M' 131 8) ∧ M' 131 12 = M 131 12 ∧ (z = 1 → M 131 12 = 0 ∧ M 131 9 < M' 131 9))) := by
  obtain ⟨hI, hW⟩ := hJ
  have hF : Fr [131] M M := Fr.rf
  refine en_z (by decide +kernel) (fun ad => by exact Nat.le_of_ble_eq_true rfl) (fun D cy ad A p e s m args below meth c Q F hret => ?_)
  refine z_eq (ls' := [(0, .ref (ad 131)), (1, .ref (ad 1070))]) rfl rfl rfl ?_
  refine z_aload_n F dX12_took_0 rfl (q := 0) rfl ?_
  refine z_aload_n F dX12_took_1 rfl (q := 1) rfl ?_
  refine zv_i (rest := []) F (kp_X12_isWord_131_1070 l M ⟨hI, hW⟩ (by omega)) cs_X12_123 (T := TX12) (N := 44) (ci := 12) rfl gs_131 (by decide) (by decide) rfl rfl rfl (Nat.le_of_ble_eq_true rfl) dX12_took_2 (fun v1 M2 rv1 hI p3 => ?_)
  obtain ⟨hI, hW⟩ := hI
  obtain ⟨⟨av1, bv1⟩, rfl, xp3⟩ := p3
  refine z_istore_n F dX12_took_5 rfl (by decide) (ls' := [(2, ii v1), (0, .ref (ad 131)), (1, .ref (ad 1070))]) rfl ?_
  refine z_iload_n F dX12_took_6 rfl (q := 0) rfl ?_
  refine z_if_eq (tgt := 14) F dX12_took_7 (by decide +kernel) (by omega) (fun c4 => ?_) (fun c4 => ?_)
  · refine z_iload_n F dX12_took_14 rfl (q := 0) rfl ?_
    exact hret _ _ 15 _ ⟨by omega, by omega⟩ ⟨hI, hW⟩ ⟨⟨by omega, by omega⟩, hF, (by omega)⟩ dX12_took_15
  · refine z_aload_n F dX12_took_10 rfl (q := 1) rfl ?_
    refine zv_v (rest := []) F (kp_X12_readsOn l M ⟨hI, hW⟩ (by omega)) cs_X12_127 (T := TX12) (N := 44) (ci := 12) rfl gs_131 (by decide) (by decide) rfl rfl rfl (Nat.le_of_ble_eq_true rfl) dX12_took_11 (fun M5 hI p6 => ?_)
    obtain ⟨hI, hW⟩ := hI
    obtain ⟨fp6, xp6⟩ := p6
    have hF := hF.call fp6 (by decide)
    have tM5_133_6 : M5 133 6 = M 133 6 := fp6.at (by decide)
    have tM5_133_1 : M5 133 1 = M 133 1 := fp6.at (by decide)
    refine z_iload_n F dX12_took_14 rfl (q := 0) rfl ?_
    exact hret _ _ 15 _ ⟨by omega, by omega⟩ ⟨hI, hW⟩ ⟨⟨by omega, by omega⟩, hF, (by omega)⟩ dX12_took_15
set_option maxHeartbeats 4000000 in
set_option maxRecDepth 4000 in
theorem kp_X12_isWord_131_1071 (l : Launch) (M : Mem) (hJ : Iw M) (hp0 : 0 ≤ M 131 9 ∧ M 131 9 ≤ M 131 8 ∧ M 131 8 ≤ M 131 7 ∧ M 131 7 ≤ 900 ∧ (M 131 10 = 0 ∨ M 131 9 < M 131 8)) : CI l yX12_isWord cX12_isWord 4 (some .boolean) 5 (fun ad => [.ref (ad 131), .ref (ad 1071)]) M (fun z M' => (0 ≤ z ∧ z ≤ 1) ∧ M = M' ∧ (z = 1 → M 131 12 = 0 ∧ M 131 10 = 1)) := by
  obtain ⟨hI, hW⟩ := hJ
  refine en_z (by decide +kernel) (fun ad => by exact Nat.le_of_ble_eq_true rfl) (fun D cy ad A p e s m args below meth c Q F hret => ?_)
  refine z_eq (ls' := [(0, .ref (ad 131)), (1, .ref (ad 1071))]) rfl rfl rfl ?_
  obtain ⟨u1, eu1⟩ : ∃ v : Int, v = M 131 7 := ⟨_, rfl⟩
  have ku1 : 0 ≤ u1 ∧ u1 ≤ 900 := by have := hI.at (show Bd 131 7 = (0, 900) from rfl); omega
  obtain ⟨u2, eu2⟩ : ∃ v : Int, v = M 131 8 := ⟨_, rfl⟩
  have ku2 : 0 ≤ u2 ∧ u2 ≤ 900 := by have := hI.at (show Bd 131 8 = (0, 900) from rfl); omega
  obtain ⟨u3, eu3⟩ : ∃ v : Int, v = M 131 9 := ⟨_, rfl⟩
  have ku3 : 0 ≤ u3 ∧ u3 ≤ 900 := by have := hI.at (show Bd 131 9 = (0, 900) from rfl); omega
  obtain ⟨u4, eu4⟩ : ∃ v : Int, v = M 131 10 := ⟨_, rfl⟩
  have ku4 : (-2147483648) ≤ u4 ∧ u4 ≤ 2147483647 := by have := hI.at (show Bd 131 10 = (-2147483648, 2147483647) from rfl); omega
  obtain ⟨u5, eu5⟩ : ∃ v : Int, v = M 131 12 := ⟨_, rfl⟩
  have ku5 : 0 ≤ u5 ∧ u5 ≤ 4 := by have := hI.at (show Bd 131 12 = (0, 4) from rfl); omega
  obtain ⟨u6, eu6⟩ : ∃ v : Int, v = M 131 16 := ⟨_, rfl⟩
  have ku6 : (-2147483648) ≤ u6 ∧ u6 ≤ 2147483647 := by have := hI.at (show Bd 131 16 = (-2147483648, 2147483647) from rfl); omega
  refine z_aload_n F dX12_isWord_0 rfl (q := 0) rfl ?_
  refine gf_X12_108 F hI gs_131 rfl bd_131_12 dX12_isWord_1 (fun v7 ev7 av7 bv7 => ?_)
  have zv7 : u5 = v7 := eu5.trans ev7.symm
  subst zv7
  refine z_if_ne (tgt := 35) F dX12_isWord_4 (by decide +kernel) (by omega) (fun c8 => ?_) (fun c8 => ?_)
  · refine z_iconst F dX12_isWord_35 ?_
    refine z_istore_n F dX12_isWord_36 rfl (by decide) (ls' := [(2, ii 0), (0, .ref (ad 131)), (1, .ref (ad 1071))]) rfl ?_
    refine z_iconst F dX12_isWord_37 ?_
    refine z_istore_n F dX12_isWord_38 rfl (by decide) (ls' := [(3, ii 0), (2, ii 0), (0, .ref (ad 131)), (1, .ref (ad 1071))]) rfl ?_
    refine z_loc [2, 3, 1, 0] (ls' := [(0, .ref (ad 131)), (1, .ref (ad 1071)), (2, ii 0), (3, ii 0)]) rfl ?_
    suffices key39 : ∀ (n : Nat) (y10 : Int) (y11 : Int), 0 ≤ y10 → y10 ≤ 0 → 0 ≤ y11 → y11 ≤ 0 → (y10 = 1 → M 131 12 = 0 ∧ M 131 10 = 1 ∧ M 131 8 - M 131 9 = 4) → 0 < (n : Int) → Z D cy ad p l e (RMh 5) s m args below meth c A 4 0 0 Q 39 [(0, .ref (ad 131)), (1, .ref (ad 1071)), (2, ii y10), (3, ii y11)] [] M from key39 1 0 0 (by omega) (by omega) (by omega) (by omega) (by omega) (by omega)
    intro n39
    induction n39 with
    | zero => intro y10 y11 ay10 by10 ay11 by11 i39_0 hn39; exfalso; omega
    | succ n39 ih39 =>
      intro y10 y11 ay10 by10 ay11 by11 i39_0 hn39
      refine z_iload_n F dX12_isWord_39 rfl (q := 2) rfl ?_
      refine z_if_eq (tgt := 82) F dX12_isWord_40 (by decide +kernel) (by omega) (fun c12 => ?_) (fun c12 => by exfalso; omega)
      refine z_iload_n F dX12_isWord_82 rfl (q := 2) rfl ?_
      exact hret _ _ 83 _ ⟨by omega, by omega⟩ ⟨hI, hW⟩ ⟨⟨by omega, by omega⟩, rfl, (by omega)⟩ dX12_isWord_83
  · refine z_aload_n F dX12_isWord_7 rfl (q := 0) rfl ?_
    refine gf_X12_88 F hI gs_131 rfl bd_131_10 dX12_isWord_8 (fun v13 ev13 av13 bv13 => ?_)
    have zv13 : u4 = v13 := eu4.trans ev13.symm
    subst zv13
    refine z_iconst F dX12_isWord_11 ?_
    refine z_icmp_ne (tgt := 35) F dX12_isWord_12 (by decide +kernel) (by omega) (by omega) (fun c14 => ?_) (fun c14 => ?_)
    · refine z_iconst F dX12_isWord_35 ?_
      refine z_istore_n F dX12_isWord_36 rfl (by decide) (ls' := [(2, ii 0), (0, .ref (ad 131)), (1, .ref (ad 1071))]) rfl ?_
      refine z_iconst F dX12_isWord_37 ?_
      refine z_istore_n F dX12_isWord_38 rfl (by decide) (ls' := [(3, ii 0), (2, ii 0), (0, .ref (ad 131)), (1, .ref (ad 1071))]) rfl ?_
      refine z_loc [2, 3, 1, 0] (ls' := [(0, .ref (ad 131)), (1, .ref (ad 1071)), (2, ii 0), (3, ii 0)]) rfl ?_
      suffices key39 : ∀ (n : Nat) (y16 : Int) (y17 : Int), 0 ≤ y16 → y16 ≤ 0 → 0 ≤ y17 → y17 ≤ 0 → (y16 = 1 → M 131 12 = 0 ∧ M 131 10 = 1 ∧ M 131 8 - M 131 9 = 4) → 0 < (n : Int) → Z D cy ad p l e (RMh 5) s m args below meth c A 4 0 0 Q 39 [(0, .ref (ad 131)), (1, .ref (ad 1071)), (2, ii y16), (3, ii y17)] [] M from key39 1 0 0 (by omega) (by omega) (by omega) (by omega) (by omega) (by omega)
      intro n39
      induction n39 with
      | zero => intro y16 y17 ay16 by16 ay17 by17 i39_0 hn39; exfalso; omega
      | succ n39 ih39 =>
        intro y16 y17 ay16 by16 ay17 by17 i39_0 hn39
        refine z_iload_n F dX12_isWord_39 rfl (q := 2) rfl ?_
        refine z_if_eq (tgt := 82) F dX12_isWord_40 (by decide +kernel) (by omega) (fun c18 => ?_) (fun c18 => by exfalso; omega)
        refine z_iload_n F dX12_isWord_82 rfl (q := 2) rfl ?_
        exact hret _ _ 83 _ ⟨by omega, by omega⟩ ⟨hI, hW⟩ ⟨⟨by omega, by omega⟩, rfl, (by omega)⟩ dX12_isWord_83
    · refine z_aload_n F dX12_isWord_15 rfl (q := 0) rfl ?_
      refine gf_X12_82 F hI gs_131 rfl bd_131_8 dX12_isWord_16 (fun v19 ev19 av19 bv19 => ?_)
      have zv19 : u2 = v19 := eu2.trans ev19.symm
      subst zv19
      refine z_aload_n F dX12_isWord_19 rfl (q := 0) rfl ?_
      refine gf_X12_85 F hI gs_131 rfl bd_131_9 dX12_isWord_20 (fun v20 ev20 av20 bv20 => ?_)
      have zv20 : u3 = v20 := eu3.trans ev20.symm
      subst zv20
      refine z_isub F dX12_isWord_23 ?_
      refine z_aload_n F dX12_isWord_24 rfl (q := 1) rfl ?_
      refine zvs_i (i := 71) (rest := [ii (u2 - u3)]) F (kS_len l M ⟨hI, hW⟩ 71 (by decide)) cs_X12_114 (by decide) (by decide) (by decide) rfl rfl rfl (Nat.le_of_ble_eq_true rfl) dX12_isWord_25 (fun v21 M9 rv21 hI9 pv21 => ?_)
      obtain ⟨ev21, rfl⟩ := pv21
      obtain rfl : v21 = 4 := ev21.trans (show ((sbyt.getD 71 []).length : Int) = 4 from by decide)
      clear hI9
      refine z_icmp_ne (tgt := 35) F dX12_isWord_28 (by decide +kernel) (by omega) (by omega) (fun c22 => ?_) (fun c22 => ?_)
      · refine z_iconst F dX12_isWord_35 ?_
        refine z_istore_n F dX12_isWord_36 rfl (by decide) (ls' := [(2, ii 0), (0, .ref (ad 131)), (1, .ref (ad 1071))]) rfl ?_
        refine z_iconst F dX12_isWord_37 ?_
        refine z_istore_n F dX12_isWord_38 rfl (by decide) (ls' := [(3, ii 0), (2, ii 0), (0, .ref (ad 131)), (1, .ref (ad 1071))]) rfl ?_
        refine z_loc [2, 3, 1, 0] (ls' := [(0, .ref (ad 131)), (1, .ref (ad 1071)), (2, ii 0), (3, ii 0)]) rfl ?_
        suffices key39 : ∀ (n : Nat) (y24 : Int) (y25 : Int), 0 ≤ y24 → y24 ≤ 0 → 0 ≤ y25 → y25 ≤ 0 → (y24 = 1 → M 131 12 = 0 ∧ M 131 10 = 1 ∧ M 131 8 - M 131 9 = 4) → 0 < (n : Int) → Z D cy ad p l e (RMh 5) s m args below meth c A 4 0 0 Q 39 [(0, .ref (ad 131)), (1, .ref (ad 1071)), (2, ii y24), (3, ii y25)] [] M from key39 1 0 0 (by omega) (by omega) (by omega) (by omega) (by omega) (by omega)
        intro n39
        induction n39 with
        | zero => intro y24 y25 ay24 by24 ay25 by25 i39_0 hn39; exfalso; omega
        | succ n39 ih39 =>
          intro y24 y25 ay24 by24 ay25 by25 i39_0 hn39
          refine z_iload_n F dX12_isWord_39 rfl (q := 2) rfl ?_
          refine z_if_eq (tgt := 82) F dX12_isWord_40 (by decide +kernel) (by omega) (fun c26 => ?_) (fun c26 => by exfalso; omega)
          refine z_iload_n F dX12_isWord_82 rfl (q := 2) rfl ?_
          exact hret _ _ 83 _ ⟨by omega, by omega⟩ ⟨hI, hW⟩ ⟨⟨by omega, by omega⟩, rfl, (by omega)⟩ dX12_isWord_83
      · refine z_iconst F dX12_isWord_31 ?_
        refine z_goto (tgt := 36) F dX12_isWord_32 (by decide +kernel) ?_
        refine z_istore_n F dX12_isWord_36 rfl (by decide) (ls' := [(2, ii 1), (0, .ref (ad 131)), (1, .ref (ad 1071))]) rfl ?_
        refine z_iconst F dX12_isWord_37 ?_
        refine z_istore_n F dX12_isWord_38 rfl (by decide) (ls' := [(3, ii 0), (2, ii 1), (0, .ref (ad 131)), (1, .ref (ad 1071))]) rfl ?_
        refine z_loc [2, 3, 1, 0] (ls' := [(0, .ref (ad 131)), (1, .ref (ad 1071)), (2, ii 1), (3, ii 0)]) rfl ?_
        suffices key39 : ∀ (n : Nat) (y28 : Int) (y29 : Int), 0 ≤ y28 → y28 ≤ 1 → 0 ≤ y29 → y29 ≤ 4 → (y28 = 1 → M 131 12 = 0 ∧ M 131 10 = 1 ∧ M 131 8 - M 131 9 = 4) → 4 - y29 < (n : Int) → Z D cy ad p l e (RMh 5) s m args below meth c A 4 0 0 Q 39 [(0, .ref (ad 131)), (1, .ref (ad 1071)), (2, ii y28), (3, ii y29)] [] M from key39 5 1 0 (by omega) (by omega) (by omega) (by omega) (by omega) (by omega)
        intro n39
        induction n39 with
        | zero => intro y28 y29 ay28 by28 ay29 by29 i39_0 hn39; exfalso; omega
        | succ n39 ih39 =>
          intro y28 y29 ay28 by28 ay29 by29 i39_0 hn39
          refine z_iload_n F dX12_isWord_39 rfl (q := 2) rfl ?_
          refine z_if_eq (tgt := 82) F dX12_isWord_40 (by decide +kernel) (by omega) (fun c30 => ?_) (fun c30 => ?_)
          · refine z_iload_n F dX12_isWord_82 rfl (q := 2) rfl ?_
            exact hret _ _ 83 _ ⟨by omega, by omega⟩ ⟨hI, hW⟩ ⟨⟨by omega, by omega⟩, rfl, (by omega)⟩ dX12_isWord_83
          · refine z_iload_n F dX12_isWord_43 rfl (q := 3) rfl ?_
            refine z_aload_n F dX12_isWord_44 rfl (q := 1) rfl ?_
            refine zvs_i (i := 71) (rest := [ii y29]) F (kS_len l M ⟨hI, hW⟩ 71 (by decide)) cs_X12_114 (by decide) (by decide) (by decide) rfl rfl rfl (Nat.le_of_ble_eq_true rfl) dX12_isWord_45 (fun v31 M9 rv31 hI9 pv31 => ?_)
            obtain ⟨ev31, rfl⟩ := pv31
            obtain rfl : v31 = 4 := ev31.trans (show ((sbyt.getD 71 []).length : Int) = 4 from by decide)
            clear hI9
            refine z_icmp_ge (tgt := 82) F dX12_isWord_48 (by decide +kernel) (by omega) (by omega) (fun c32 => ?_) (fun c32 => ?_)
            · refine z_iload_n F dX12_isWord_82 rfl (q := 2) rfl ?_
              exact hret _ _ 83 _ ⟨by omega, by omega⟩ ⟨hI, hW⟩ ⟨⟨by omega, by omega⟩, rfl, (by omega)⟩ dX12_isWord_83
            · refine z_aload_n F dX12_isWord_51 rfl (q := 0) rfl ?_
              refine rf_X12_23 F gs_131 rfl dX12_isWord_52 ?_
              refine z_aload_n F dX12_isWord_55 rfl (q := 0) rfl ?_
              refine gf_X12_85 F hI gs_131 rfl bd_131_9 dX12_isWord_56 (fun v33 ev33 av33 bv33 => ?_)
              have zv33 : u3 = v33 := eu3.trans ev33.symm
              subst zv33
              refine z_iload_n F dX12_isWord_59 rfl (q := 3) rfl ?_
              refine z_iadd F dX12_isWord_60 ?_
              have k34 : 0 ≤ (u3 + y29) ∧ (u3 + y29) ≤ 899 := by omega
              refine z_iald F hI gs_136 (by omega) (by omega) (by decide) bd_136 dX12_isWord_61 (fun v35 (ev35 : v35 = M 136 _) av35 bv35 => ?_)
              refine z_aload_n F dX12_isWord_62 rfl (q := 1) rfl ?_
              refine z_iload_n F dX12_isWord_63 rfl (q := 3) rfl ?_
              refine zvs_i (i := 71) (rest := [ii v35]) F (kS_chr l M ⟨hI, hW⟩ 71 (by decide) y29 (by omega) (show y29 < ((sbyt.getD 71 []).length : Int) from by rw [show ((sbyt.getD 71 []).length : Int) = 4 from by decide]; omega)) cs_X12_119 (by decide) (by decide) (by decide) rfl rfl rfl (Nat.le_of_ble_eq_true rfl) dX12_isWord_64 (fun v36 M9 rv36 hI9 pv36 => ?_)
              obtain ⟨⟨av36, bv36⟩, rfl⟩ := pv36
              clear hI9
              refine z_icmp_ne (tgt := 74) F dX12_isWord_67 (by decide +kernel) (by omega) (by omega) (fun c37 => ?_) (fun c37 => ?_)
              · refine z_iconst F dX12_isWord_74 ?_
                refine z_istore_n F dX12_isWord_75 rfl (by decide) (ls' := [(2, ii 0), (0, .ref (ad 131)), (1, .ref (ad 1071)), (3, ii y29)]) rfl ?_
                refine z_iincN F dX12_isWord_76 (q := 3) rfl (by decide) (fun v38 ev38 => ?_)
                refine z_eq (ls' := [(3, ii v38), (2, ii 0), (0, .ref (ad 131)), (1, .ref (ad 1071))]) rfl rfl rfl ?_
                refine z_goto (tgt := 39) F dX12_isWord_79 (by decide +kernel) ?_
                refine z_loc [2, 3, 1, 0] (ls' := [(0, .ref (ad 131)), (1, .ref (ad 1071)), (2, ii 0), (3, ii v38)]) rfl ?_
                exact ih39 0 v38 (by omega) (by omega) (by omega) (by omega) (by omega) (by omega)
              · refine z_iconst F dX12_isWord_70 ?_
                refine z_goto (tgt := 75) F dX12_isWord_71 (by decide +kernel) ?_
                refine z_istore_n F dX12_isWord_75 rfl (by decide) (ls' := [(2, ii 1), (0, .ref (ad 131)), (1, .ref (ad 1071)), (3, ii y29)]) rfl ?_
                refine z_iincN F dX12_isWord_76 (q := 3) rfl (by decide) (fun v39 ev39 => ?_)
                refine z_eq (ls' := [(3, ii v39), (2, ii 1), (0, .ref (ad 131)), (1, .ref (ad 1071))]) rfl rfl rfl ?_
                refine z_goto (tgt := 39) F dX12_isWord_79 (by decide +kernel) ?_
                refine z_loc [2, 3, 1, 0] (ls' := [(0, .ref (ad 131)), (1, .ref (ad 1071)), (2, ii 1), (3, ii v39)]) rfl ?_
                exact ih39 1 v39 (by omega) (by omega) (by omega) (by omega) (by omega) (by omega)
set_option maxHeartbeats 4000000 in
set_option maxRecDepth 4000 in
theorem kp_X12_took_131_1071 (l : Launch) (M : Mem) (hJ : Iw M) (hp0 : 0 ≤ M 131 9 ∧ M 131 9 ≤ M 131 8 ∧ M 131 8 ≤ M 131 7 ∧ M 131 7 ≤ 900 ∧ (M 131 10 = 0 ∨ M 131 9 < M 131 8)) : CI l yX12_took cX12_took 3 (some .boolean) 6 (fun ad => [.ref (ad 131), .ref (ad 1071)]) M (fun z M' => (0 ≤ z ∧ z ≤ 1) ∧ Fr [131] M M' ∧ (M' 131 7 = M 131 7 ∧ M' 131 16 = M 131 16 ∧ M 131 9 ≤ M' 131 9 ∧ 0 ≤ M' 131 9 ∧ M' 131 9 ≤ M' 131 8 ∧ M' 131 8 ≤ M' 131 7 ∧ M' 131 7 ≤ 900 ∧ (M' 131 10 = 0 ∨ M' 131 9 < M' 131 8) ∧ M' 131 12 = M 131 12 ∧ (z = 1 → M 131 12 = 0 ∧ M 131 9 < M' 131 9))) := by
  obtain ⟨hI, hW⟩ := hJ
  have hF : Fr [131] M M := Fr.rf
  refine en_z (by decide +kernel) (fun ad => by exact Nat.le_of_ble_eq_true rfl) (fun D cy ad A p e s m args below meth c Q F hret => ?_)
  refine z_eq (ls' := [(0, .ref (ad 131)), (1, .ref (ad 1071))]) rfl rfl rfl ?_
  refine z_aload_n F dX12_took_0 rfl (q := 0) rfl ?_
  refine z_aload_n F dX12_took_1 rfl (q := 1) rfl ?_
  refine zv_i (rest := []) F (kp_X12_isWord_131_1071 l M ⟨hI, hW⟩ (by omega)) cs_X12_123 (T := TX12) (N := 44) (ci := 12) rfl gs_131 (by decide) (by decide) rfl rfl rfl (Nat.le_of_ble_eq_true rfl) dX12_took_2 (fun v1 M2 rv1 hI p3 => ?_)
  obtain ⟨hI, hW⟩ := hI
  obtain ⟨⟨av1, bv1⟩, rfl, xp3⟩ := p3
  refine z_istore_n F dX12_took_5 rfl (by decide) (ls' := [(2, ii v1), (0, .ref (ad 131)), (1, .ref (ad 1071))]) rfl ?_
  refine z_iload_n F dX12_took_6 rfl (q := 0) rfl ?_
  refine z_if_eq (tgt := 14) F dX12_took_7 (by decide +kernel) (by omega) (fun c4 => ?_) (fun c4 => ?_)
  · refine z_iload_n F dX12_took_14 rfl (q := 0) rfl ?_
    exact hret _ _ 15 _ ⟨by omega, by omega⟩ ⟨hI, hW⟩ ⟨⟨by omega, by omega⟩, hF, (by omega)⟩ dX12_took_15
  · refine z_aload_n F dX12_took_10 rfl (q := 1) rfl ?_
    refine zv_v (rest := []) F (kp_X12_readsOn l M ⟨hI, hW⟩ (by omega)) cs_X12_127 (T := TX12) (N := 44) (ci := 12) rfl gs_131 (by decide) (by decide) rfl rfl rfl (Nat.le_of_ble_eq_true rfl) dX12_took_11 (fun M5 hI p6 => ?_)
    obtain ⟨hI, hW⟩ := hI
    obtain ⟨fp6, xp6⟩ := p6
    have hF := hF.call fp6 (by decide)
    have tM5_133_6 : M5 133 6 = M 133 6 := fp6.at (by decide)
    have tM5_133_1 : M5 133 1 = M 133 1 := fp6.at (by decide)
    refine z_iload_n F dX12_took_14 rfl (q := 0) rfl ?_
    exact hret _ _ 15 _ ⟨by omega, by omega⟩ ⟨hI, hW⟩ ⟨⟨by omega, by omega⟩, hF, (by omega)⟩ dX12_took_15
set_option maxHeartbeats 4000000 in
set_option maxRecDepth 4000 in
theorem kp_X12_isWord_131_1072 (l : Launch) (M : Mem) (hJ : Iw M) (hp0 : 0 ≤ M 131 9 ∧ M 131 9 ≤ M 131 8 ∧ M 131 8 ≤ M 131 7 ∧ M 131 7 ≤ 900 ∧ (M 131 10 = 0 ∨ M 131 9 < M 131 8)) : CI l yX12_isWord cX12_isWord 4 (some .boolean) 5 (fun ad => [.ref (ad 131), .ref (ad 1072)]) M (fun z M' => (0 ≤ z ∧ z ≤ 1) ∧ M = M' ∧ (z = 1 → M 131 12 = 0 ∧ M 131 10 = 1)) := by
  obtain ⟨hI, hW⟩ := hJ
  refine en_z (by decide +kernel) (fun ad => by exact Nat.le_of_ble_eq_true rfl) (fun D cy ad A p e s m args below meth c Q F hret => ?_)
  refine z_eq (ls' := [(0, .ref (ad 131)), (1, .ref (ad 1072))]) rfl rfl rfl ?_
  obtain ⟨u1, eu1⟩ : ∃ v : Int, v = M 131 7 := ⟨_, rfl⟩
  have ku1 : 0 ≤ u1 ∧ u1 ≤ 900 := by have := hI.at (show Bd 131 7 = (0, 900) from rfl); omega
  obtain ⟨u2, eu2⟩ : ∃ v : Int, v = M 131 8 := ⟨_, rfl⟩
  have ku2 : 0 ≤ u2 ∧ u2 ≤ 900 := by have := hI.at (show Bd 131 8 = (0, 900) from rfl); omega
  obtain ⟨u3, eu3⟩ : ∃ v : Int, v = M 131 9 := ⟨_, rfl⟩
  have ku3 : 0 ≤ u3 ∧ u3 ≤ 900 := by have := hI.at (show Bd 131 9 = (0, 900) from rfl); omega
  obtain ⟨u4, eu4⟩ : ∃ v : Int, v = M 131 10 := ⟨_, rfl⟩
  have ku4 : (-2147483648) ≤ u4 ∧ u4 ≤ 2147483647 := by have := hI.at (show Bd 131 10 = (-2147483648, 2147483647) from rfl); omega
  obtain ⟨u5, eu5⟩ : ∃ v : Int, v = M 131 12 := ⟨_, rfl⟩
  have ku5 : 0 ≤ u5 ∧ u5 ≤ 4 := by have := hI.at (show Bd 131 12 = (0, 4) from rfl); omega
  obtain ⟨u6, eu6⟩ : ∃ v : Int, v = M 131 16 := ⟨_, rfl⟩
  have ku6 : (-2147483648) ≤ u6 ∧ u6 ≤ 2147483647 := by have := hI.at (show Bd 131 16 = (-2147483648, 2147483647) from rfl); omega
  refine z_aload_n F dX12_isWord_0 rfl (q := 0) rfl ?_
  refine gf_X12_108 F hI gs_131 rfl bd_131_12 dX12_isWord_1 (fun v7 ev7 av7 bv7 => ?_)
  have zv7 : u5 = v7 := eu5.trans ev7.symm
  subst zv7
  refine z_if_ne (tgt := 35) F dX12_isWord_4 (by decide +kernel) (by omega) (fun c8 => ?_) (fun c8 => ?_)
  · refine z_iconst F dX12_isWord_35 ?_
    refine z_istore_n F dX12_isWord_36 rfl (by decide) (ls' := [(2, ii 0), (0, .ref (ad 131)), (1, .ref (ad 1072))]) rfl ?_
    refine z_iconst F dX12_isWord_37 ?_
    refine z_istore_n F dX12_isWord_38 rfl (by decide) (ls' := [(3, ii 0), (2, ii 0), (0, .ref (ad 131)), (1, .ref (ad 1072))]) rfl ?_
    refine z_loc [2, 3, 1, 0] (ls' := [(0, .ref (ad 131)), (1, .ref (ad 1072)), (2, ii 0), (3, ii 0)]) rfl ?_
    suffices key39 : ∀ (n : Nat) (y10 : Int) (y11 : Int), 0 ≤ y10 → y10 ≤ 0 → 0 ≤ y11 → y11 ≤ 0 → (y10 = 1 → M 131 12 = 0 ∧ M 131 10 = 1 ∧ M 131 8 - M 131 9 = 7) → 0 < (n : Int) → Z D cy ad p l e (RMh 5) s m args below meth c A 4 0 0 Q 39 [(0, .ref (ad 131)), (1, .ref (ad 1072)), (2, ii y10), (3, ii y11)] [] M from key39 1 0 0 (by omega) (by omega) (by omega) (by omega) (by omega) (by omega)
    intro n39
    induction n39 with
    | zero => intro y10 y11 ay10 by10 ay11 by11 i39_0 hn39; exfalso; omega
    | succ n39 ih39 =>
      intro y10 y11 ay10 by10 ay11 by11 i39_0 hn39
      refine z_iload_n F dX12_isWord_39 rfl (q := 2) rfl ?_
      refine z_if_eq (tgt := 82) F dX12_isWord_40 (by decide +kernel) (by omega) (fun c12 => ?_) (fun c12 => by exfalso; omega)
      refine z_iload_n F dX12_isWord_82 rfl (q := 2) rfl ?_
      exact hret _ _ 83 _ ⟨by omega, by omega⟩ ⟨hI, hW⟩ ⟨⟨by omega, by omega⟩, rfl, (by omega)⟩ dX12_isWord_83
  · refine z_aload_n F dX12_isWord_7 rfl (q := 0) rfl ?_
    refine gf_X12_88 F hI gs_131 rfl bd_131_10 dX12_isWord_8 (fun v13 ev13 av13 bv13 => ?_)
    have zv13 : u4 = v13 := eu4.trans ev13.symm
    subst zv13
    refine z_iconst F dX12_isWord_11 ?_
    refine z_icmp_ne (tgt := 35) F dX12_isWord_12 (by decide +kernel) (by omega) (by omega) (fun c14 => ?_) (fun c14 => ?_)
    · refine z_iconst F dX12_isWord_35 ?_
      refine z_istore_n F dX12_isWord_36 rfl (by decide) (ls' := [(2, ii 0), (0, .ref (ad 131)), (1, .ref (ad 1072))]) rfl ?_
      refine z_iconst F dX12_isWord_37 ?_
      refine z_istore_n F dX12_isWord_38 rfl (by decide) (ls' := [(3, ii 0), (2, ii 0), (0, .ref (ad 131)), (1, .ref (ad 1072))]) rfl ?_
      refine z_loc [2, 3, 1, 0] (ls' := [(0, .ref (ad 131)), (1, .ref (ad 1072)), (2, ii 0), (3, ii 0)]) rfl ?_
      suffices key39 : ∀ (n : Nat) (y16 : Int) (y17 : Int), 0 ≤ y16 → y16 ≤ 0 → 0 ≤ y17 → y17 ≤ 0 → (y16 = 1 → M 131 12 = 0 ∧ M 131 10 = 1 ∧ M 131 8 - M 131 9 = 7) → 0 < (n : Int) → Z D cy ad p l e (RMh 5) s m args below meth c A 4 0 0 Q 39 [(0, .ref (ad 131)), (1, .ref (ad 1072)), (2, ii y16), (3, ii y17)] [] M from key39 1 0 0 (by omega) (by omega) (by omega) (by omega) (by omega) (by omega)
      intro n39
      induction n39 with
      | zero => intro y16 y17 ay16 by16 ay17 by17 i39_0 hn39; exfalso; omega
      | succ n39 ih39 =>
        intro y16 y17 ay16 by16 ay17 by17 i39_0 hn39
        refine z_iload_n F dX12_isWord_39 rfl (q := 2) rfl ?_
        refine z_if_eq (tgt := 82) F dX12_isWord_40 (by decide +kernel) (by omega) (fun c18 => ?_) (fun c18 => by exfalso; omega)
        refine z_iload_n F dX12_isWord_82 rfl (q := 2) rfl ?_
        exact hret _ _ 83 _ ⟨by omega, by omega⟩ ⟨hI, hW⟩ ⟨⟨by omega, by omega⟩, rfl, (by omega)⟩ dX12_isWord_83
    · refine z_aload_n F dX12_isWord_15 rfl (q := 0) rfl ?_
      refine gf_X12_82 F hI gs_131 rfl bd_131_8 dX12_isWord_16 (fun v19 ev19 av19 bv19 => ?_)
      have zv19 : u2 = v19 := eu2.trans ev19.symm
      subst zv19
      refine z_aload_n F dX12_isWord_19 rfl (q := 0) rfl ?_
      refine gf_X12_85 F hI gs_131 rfl bd_131_9 dX12_isWord_20 (fun v20 ev20 av20 bv20 => ?_)
      have zv20 : u3 = v20 := eu3.trans ev20.symm
      subst zv20
      refine z_isub F dX12_isWord_23 ?_
      refine z_aload_n F dX12_isWord_24 rfl (q := 1) rfl ?_
      refine zvs_i (i := 72) (rest := [ii (u2 - u3)]) F (kS_len l M ⟨hI, hW⟩ 72 (by decide)) cs_X12_114 (by decide) (by decide) (by decide) rfl rfl rfl (Nat.le_of_ble_eq_true rfl) dX12_isWord_25 (fun v21 M9 rv21 hI9 pv21 => ?_)
      obtain ⟨ev21, rfl⟩ := pv21
      obtain rfl : v21 = 7 := ev21.trans (show ((sbyt.getD 72 []).length : Int) = 7 from by decide)
      clear hI9
      refine z_icmp_ne (tgt := 35) F dX12_isWord_28 (by decide +kernel) (by omega) (by omega) (fun c22 => ?_) (fun c22 => ?_)
      · refine z_iconst F dX12_isWord_35 ?_
        refine z_istore_n F dX12_isWord_36 rfl (by decide) (ls' := [(2, ii 0), (0, .ref (ad 131)), (1, .ref (ad 1072))]) rfl ?_
        refine z_iconst F dX12_isWord_37 ?_
        refine z_istore_n F dX12_isWord_38 rfl (by decide) (ls' := [(3, ii 0), (2, ii 0), (0, .ref (ad 131)), (1, .ref (ad 1072))]) rfl ?_
        refine z_loc [2, 3, 1, 0] (ls' := [(0, .ref (ad 131)), (1, .ref (ad 1072)), (2, ii 0), (3, ii 0)]) rfl ?_
        suffices key39 : ∀ (n : Nat) (y24 : Int) (y25 : Int), 0 ≤ y24 → y24 ≤ 0 → 0 ≤ y25 → y25 ≤ 0 → (y24 = 1 → M 131 12 = 0 ∧ M 131 10 = 1 ∧ M 131 8 - M 131 9 = 7) → 0 < (n : Int) → Z D cy ad p l e (RMh 5) s m args below meth c A 4 0 0 Q 39 [(0, .ref (ad 131)), (1, .ref (ad 1072)), (2, ii y24), (3, ii y25)] [] M from key39 1 0 0 (by omega) (by omega) (by omega) (by omega) (by omega) (by omega)
        intro n39
        induction n39 with
        | zero => intro y24 y25 ay24 by24 ay25 by25 i39_0 hn39; exfalso; omega
        | succ n39 ih39 =>
          intro y24 y25 ay24 by24 ay25 by25 i39_0 hn39
          refine z_iload_n F dX12_isWord_39 rfl (q := 2) rfl ?_
          refine z_if_eq (tgt := 82) F dX12_isWord_40 (by decide +kernel) (by omega) (fun c26 => ?_) (fun c26 => by exfalso; omega)
          refine z_iload_n F dX12_isWord_82 rfl (q := 2) rfl ?_
          exact hret _ _ 83 _ ⟨by omega, by omega⟩ ⟨hI, hW⟩ ⟨⟨by omega, by omega⟩, rfl, (by omega)⟩ dX12_isWord_83
      · refine z_iconst F dX12_isWord_31 ?_
        refine z_goto (tgt := 36) F dX12_isWord_32 (by decide +kernel) ?_
        refine z_istore_n F dX12_isWord_36 rfl (by decide) (ls' := [(2, ii 1), (0, .ref (ad 131)), (1, .ref (ad 1072))]) rfl ?_
        refine z_iconst F dX12_isWord_37 ?_
        refine z_istore_n F dX12_isWord_38 rfl (by decide) (ls' := [(3, ii 0), (2, ii 1), (0, .ref (ad 131)), (1, .ref (ad 1072))]) rfl ?_
        refine z_loc [2, 3, 1, 0] (ls' := [(0, .ref (ad 131)), (1, .ref (ad 1072)), (2, ii 1), (3, ii 0)]) rfl ?_
        suffices key39 : ∀ (n : Nat) (y28 : Int) (y29 : Int), 0 ≤ y28 → y28 ≤ 1 → 0 ≤ y29 → y29 ≤ 7 → (y28 = 1 → M 131 12 = 0 ∧ M 131 10 = 1 ∧ M 131 8 - M 131 9 = 7) → 7 - y29 < (n : Int) → Z D cy ad p l e (RMh 5) s m args below meth c A 4 0 0 Q 39 [(0, .ref (ad 131)), (1, .ref (ad 1072)), (2, ii y28), (3, ii y29)] [] M from key39 8 1 0 (by omega) (by omega) (by omega) (by omega) (by omega) (by omega)
        intro n39
        induction n39 with
        | zero => intro y28 y29 ay28 by28 ay29 by29 i39_0 hn39; exfalso; omega
        | succ n39 ih39 =>
          intro y28 y29 ay28 by28 ay29 by29 i39_0 hn39
          refine z_iload_n F dX12_isWord_39 rfl (q := 2) rfl ?_
          refine z_if_eq (tgt := 82) F dX12_isWord_40 (by decide +kernel) (by omega) (fun c30 => ?_) (fun c30 => ?_)
          · refine z_iload_n F dX12_isWord_82 rfl (q := 2) rfl ?_
            exact hret _ _ 83 _ ⟨by omega, by omega⟩ ⟨hI, hW⟩ ⟨⟨by omega, by omega⟩, rfl, (by omega)⟩ dX12_isWord_83
          · refine z_iload_n F dX12_isWord_43 rfl (q := 3) rfl ?_
            refine z_aload_n F dX12_isWord_44 rfl (q := 1) rfl ?_
            refine zvs_i (i := 72) (rest := [ii y29]) F (kS_len l M ⟨hI, hW⟩ 72 (by decide)) cs_X12_114 (by decide) (by decide) (by decide) rfl rfl rfl (Nat.le_of_ble_eq_true rfl) dX12_isWord_45 (fun v31 M9 rv31 hI9 pv31 => ?_)
            obtain ⟨ev31, rfl⟩ := pv31
            obtain rfl : v31 = 7 := ev31.trans (show ((sbyt.getD 72 []).length : Int) = 7 from by decide)
            clear hI9
            refine z_icmp_ge (tgt := 82) F dX12_isWord_48 (by decide +kernel) (by omega) (by omega) (fun c32 => ?_) (fun c32 => ?_)
            · refine z_iload_n F dX12_isWord_82 rfl (q := 2) rfl ?_
              exact hret _ _ 83 _ ⟨by omega, by omega⟩ ⟨hI, hW⟩ ⟨⟨by omega, by omega⟩, rfl, (by omega)⟩ dX12_isWord_83
            · refine z_aload_n F dX12_isWord_51 rfl (q := 0) rfl ?_
              refine rf_X12_23 F gs_131 rfl dX12_isWord_52 ?_
              refine z_aload_n F dX12_isWord_55 rfl (q := 0) rfl ?_
              refine gf_X12_85 F hI gs_131 rfl bd_131_9 dX12_isWord_56 (fun v33 ev33 av33 bv33 => ?_)
              have zv33 : u3 = v33 := eu3.trans ev33.symm
              subst zv33
              refine z_iload_n F dX12_isWord_59 rfl (q := 3) rfl ?_
              refine z_iadd F dX12_isWord_60 ?_
              have k34 : 0 ≤ (u3 + y29) ∧ (u3 + y29) ≤ 899 := by omega
              refine z_iald F hI gs_136 (by omega) (by omega) (by decide) bd_136 dX12_isWord_61 (fun v35 (ev35 : v35 = M 136 _) av35 bv35 => ?_)
              refine z_aload_n F dX12_isWord_62 rfl (q := 1) rfl ?_
              refine z_iload_n F dX12_isWord_63 rfl (q := 3) rfl ?_
              refine zvs_i (i := 72) (rest := [ii v35]) F (kS_chr l M ⟨hI, hW⟩ 72 (by decide) y29 (by omega) (show y29 < ((sbyt.getD 72 []).length : Int) from by rw [show ((sbyt.getD 72 []).length : Int) = 7 from by decide]; omega)) cs_X12_119 (by decide) (by decide) (by decide) rfl rfl rfl (Nat.le_of_ble_eq_true rfl) dX12_isWord_64 (fun v36 M9 rv36 hI9 pv36 => ?_)
              obtain ⟨⟨av36, bv36⟩, rfl⟩ := pv36
              clear hI9
              refine z_icmp_ne (tgt := 74) F dX12_isWord_67 (by decide +kernel) (by omega) (by omega) (fun c37 => ?_) (fun c37 => ?_)
              · refine z_iconst F dX12_isWord_74 ?_
                refine z_istore_n F dX12_isWord_75 rfl (by decide) (ls' := [(2, ii 0), (0, .ref (ad 131)), (1, .ref (ad 1072)), (3, ii y29)]) rfl ?_
                refine z_iincN F dX12_isWord_76 (q := 3) rfl (by decide) (fun v38 ev38 => ?_)
                refine z_eq (ls' := [(3, ii v38), (2, ii 0), (0, .ref (ad 131)), (1, .ref (ad 1072))]) rfl rfl rfl ?_
                refine z_goto (tgt := 39) F dX12_isWord_79 (by decide +kernel) ?_
                refine z_loc [2, 3, 1, 0] (ls' := [(0, .ref (ad 131)), (1, .ref (ad 1072)), (2, ii 0), (3, ii v38)]) rfl ?_
                exact ih39 0 v38 (by omega) (by omega) (by omega) (by omega) (by omega) (by omega)
              · refine z_iconst F dX12_isWord_70 ?_
                refine z_goto (tgt := 75) F dX12_isWord_71 (by decide +kernel) ?_
                refine z_istore_n F dX12_isWord_75 rfl (by decide) (ls' := [(2, ii 1), (0, .ref (ad 131)), (1, .ref (ad 1072)), (3, ii y29)]) rfl ?_
                refine z_iincN F dX12_isWord_76 (q := 3) rfl (by decide) (fun v39 ev39 => ?_)
                refine z_eq (ls' := [(3, ii v39), (2, ii 1), (0, .ref (ad 131)), (1, .ref (ad 1072))]) rfl rfl rfl ?_
                refine z_goto (tgt := 39) F dX12_isWord_79 (by decide +kernel) ?_
                refine z_loc [2, 3, 1, 0] (ls' := [(0, .ref (ad 131)), (1, .ref (ad 1072)), (2, ii 1), (3, ii v39)]) rfl ?_
                exact ih39 1 v39 (by omega) (by omega) (by omega) (by omega) (by omega) (by omega)
set_option maxHeartbeats 4000000 in
set_option maxRecDepth 4000 in
theorem kp_X12_took_131_1072 (l : Launch) (M : Mem) (hJ : Iw M) (hp0 : 0 ≤ M 131 9 ∧ M 131 9 ≤ M 131 8 ∧ M 131 8 ≤ M 131 7 ∧ M 131 7 ≤ 900 ∧ (M 131 10 = 0 ∨ M 131 9 < M 131 8)) : CI l yX12_took cX12_took 3 (some .boolean) 6 (fun ad => [.ref (ad 131), .ref (ad 1072)]) M (fun z M' => (0 ≤ z ∧ z ≤ 1) ∧ Fr [131] M M' ∧ (M' 131 7 = M 131 7 ∧ M' 131 16 = M 131 16 ∧ M 131 9 ≤ M' 131 9 ∧ 0 ≤ M' 131 9 ∧ M' 131 9 ≤ M' 131 8 ∧ M' 131 8 ≤ M' 131 7 ∧ M' 131 7 ≤ 900 ∧ (M' 131 10 = 0 ∨ M' 131 9 < M' 131 8) ∧ M' 131 12 = M 131 12 ∧ (z = 1 → M 131 12 = 0 ∧ M 131 9 < M' 131 9))) := by
  obtain ⟨hI, hW⟩ := hJ
  have hF : Fr [131] M M := Fr.rf
  refine en_z (by decide +kernel) (fun ad => by exact Nat.le_of_ble_eq_true rfl) (fun D cy ad A p e s m args below meth c Q F hret => ?_)
  refine z_eq (ls' := [(0, .ref (ad 131)), (1, .ref (ad 1072))]) rfl rfl rfl ?_
  refine z_aload_n F dX12_took_0 rfl (q := 0) rfl ?_
  refine z_aload_n F dX12_took_1 rfl (q := 1) rfl ?_
  refine zv_i (rest := []) F (kp_X12_isWord_131_1072 l M ⟨hI, hW⟩ (by omega)) cs_X12_123 (T := TX12) (N := 44) (ci := 12) rfl gs_131 (by decide) (by decide) rfl rfl rfl (Nat.le_of_ble_eq_true rfl) dX12_took_2 (fun v1 M2 rv1 hI p3 => ?_)
  obtain ⟨hI, hW⟩ := hI
  obtain ⟨⟨av1, bv1⟩, rfl, xp3⟩ := p3
  refine z_istore_n F dX12_took_5 rfl (by decide) (ls' := [(2, ii v1), (0, .ref (ad 131)), (1, .ref (ad 1072))]) rfl ?_
  refine z_iload_n F dX12_took_6 rfl (q := 0) rfl ?_
  refine z_if_eq (tgt := 14) F dX12_took_7 (by decide +kernel) (by omega) (fun c4 => ?_) (fun c4 => ?_)
  · refine z_iload_n F dX12_took_14 rfl (q := 0) rfl ?_
    exact hret _ _ 15 _ ⟨by omega, by omega⟩ ⟨hI, hW⟩ ⟨⟨by omega, by omega⟩, hF, (by omega)⟩ dX12_took_15
  · refine z_aload_n F dX12_took_10 rfl (q := 1) rfl ?_
    refine zv_v (rest := []) F (kp_X12_readsOn l M ⟨hI, hW⟩ (by omega)) cs_X12_127 (T := TX12) (N := 44) (ci := 12) rfl gs_131 (by decide) (by decide) rfl rfl rfl (Nat.le_of_ble_eq_true rfl) dX12_took_11 (fun M5 hI p6 => ?_)
    obtain ⟨hI, hW⟩ := hI
    obtain ⟨fp6, xp6⟩ := p6
    have hF := hF.call fp6 (by decide)
    have tM5_133_6 : M5 133 6 = M 133 6 := fp6.at (by decide)
    have tM5_133_1 : M5 133 1 = M 133 1 := fp6.at (by decide)
    refine z_iload_n F dX12_took_14 rfl (q := 0) rfl ?_
    exact hret _ _ 15 _ ⟨by omega, by omega⟩ ⟨hI, hW⟩ ⟨⟨by omega, by omega⟩, hF, (by omega)⟩ dX12_took_15
set_option maxHeartbeats 4000000 in
set_option maxRecDepth 4000 in
theorem kp_X12_readZero (l : Launch) (M : Mem) (hJ : Iw M) (hp0 : 0 ≤ M 131 9 ∧ M 131 9 ≤ M 131 8 ∧ M 131 8 ≤ M 131 7 ∧ M 131 7 ≤ 900 ∧ (M 131 10 = 0 ∨ M 131 9 < M 131 8)) (hp1 : M 133 6 ≤ M 131 9) (hp2 : Wl M) (hp3 : M 131 16 = 0) : CV l yX12_readZero cX12_readZero 1 none 7 (fun ad => [.ref (ad 131)]) M (fun M' => Fr [131, 133] M M' ∧ (Wl M' ∧ M' 131 7 = M 131 7 ∧ M' 131 16 = M 131 16 ∧ M 131 9 ≤ M' 131 9 ∧ 0 ≤ M' 131 9 ∧ M' 131 9 ≤ M' 131 8 ∧ M' 131 8 ≤ M' 131 7 ∧ M' 131 7 ≤ 900 ∧ (M' 131 10 = 0 ∨ M' 131 9 < M' 131 8) ∧ M' 133 6 = M 133 6 ∧ M' 133 1 = M 133 1 ∧ (M' 131 12 = 0 → M 131 12 = 0))) := by
  obtain ⟨hI, hW⟩ := hJ
  have hF : Fr [131, 133] M M := Fr.rf
  refine en_v (by decide +kernel) (fun ad => by exact Nat.le_of_ble_eq_true rfl) (fun D cy ad A p e s m args below meth c Q F hret => ?_)
  refine z_eq (ls' := [(0, .ref (ad 131))]) rfl rfl rfl ?_
  have hL := hp2
  obtain ⟨g1, g2, g3, g4, hT⟩ := hp0
  have hT : Tk M := hT
  have kbM : 0 ≤ M 131 12 ∧ M 131 12 ≤ 4 := hI.at (show Bd 131 12 = (0, 4) from rfl)
  refine z_aload_n F dX12_readZero_0 rfl (q := 0) rfl ?_
  refine z_ldcS (j := 69) F dX12_readZero_1 rfl rfl rfl ?_
  refine z_eq (st' := [.ref (ad 1069), .ref (ad 131)]) rfl rfl rfl ?_
  refine zv_i (rest := []) F (kp_X12_took_131_1069 l M ⟨hI, hW⟩ ⟨by omega, by omega, by omega, by omega, hT⟩) cs_X12_130 (T := TX12) (N := 44) (ci := 12) rfl gs_131 (by decide) (by decide) rfl rfl rfl (Nat.le_of_ble_eq_true rfl) dX12_readZero_3 (fun v1 M2 rv1 hI p3 => ?_)
  obtain ⟨hI, hW⟩ := hI
  obtain ⟨⟨av1, bv1⟩, fp3, xp3⟩ := p3
  have hF := hF.call fp3 (by decide)
  have tM2_133_6 : M2 133 6 = M 133 6 := fp3.at (by decide)
  have tM2_133_1 : M2 133 1 = M 133 1 := fp3.at (by decide)
  have tM2_133_2 : M2 133 2 = M 133 2 := fp3.at (by decide)
  have tM2_133_4 : M2 133 4 = M 133 4 := fp3.at (by decide)
  have hq9 := wl_fr fp3 (by decide)
  have hL := hq9.2 hL
  have cM2 := hq9.1
  clear hq9
  obtain ⟨qp3_0, qp3_1, qp3_2, qp3_3, qp3_4, qp3_5, qp3_6, qp3_7, qp3_8, qp3_9⟩ := xp3
  have kbM2 : 0 ≤ M2 131 12 ∧ M2 131 12 ≤ 4 := hI.at (show Bd 131 12 = (0, 4) from rfl)
  have hT : Tk M2 := qp3_7
  clear qp3_7
  have lzqp3_9 : M 131 9 + v1 ≤ M2 131 9 := by omega
  clear qp3_9
  refine z_if_eq (tgt := 19) F dX12_readZero_6 (by decide +kernel) (by omega) (fun c4 => ?_) (fun c4 => ?_)
  · refine z_aload_n F dX12_readZero_19 rfl (q := 0) rfl ?_
    refine z_ldcS (j := 70) F dX12_readZero_20 rfl rfl rfl ?_
    refine z_eq (st' := [.ref (ad 1070), .ref (ad 131)]) rfl rfl rfl ?_
    refine zv_i (rest := []) F (kp_X12_took_131_1070 l M2 ⟨hI, hW⟩ ⟨by omega, by omega, by omega, by omega, hT⟩) cs_X12_130 (T := TX12) (N := 44) (ci := 12) rfl gs_131 (by decide) (by decide) rfl rfl rfl (Nat.le_of_ble_eq_true rfl) dX12_readZero_22 (fun v5 M6 rv5 hI p7 => ?_)
    obtain ⟨hI, hW⟩ := hI
    obtain ⟨⟨av5, bv5⟩, fp7, xp7⟩ := p7
    have hF := hF.call fp7 (by decide)
    have tM6_133_6 : M6 133 6 = M2 133 6 := fp7.at (by decide)
    have tM6_133_1 : M6 133 1 = M2 133 1 := fp7.at (by decide)
    have tM6_133_2 : M6 133 2 = M2 133 2 := fp7.at (by decide)
    have tM6_133_4 : M6 133 4 = M2 133 4 := fp7.at (by decide)
    have hq9 := wl_fr fp7 (by decide)
    have hL := hq9.2 hL
    have cM6 := hq9.1
    clear hq9
    obtain ⟨qp7_0, qp7_1, qp7_2, qp7_3, qp7_4, qp7_5, qp7_6, qp7_7, qp7_8, qp7_9⟩ := xp7
    have kbM6 : 0 ≤ M6 131 12 ∧ M6 131 12 ≤ 4 := hI.at (show Bd 131 12 = (0, 4) from rfl)
    have hT : Tk M6 := qp7_7
    clear qp7_7
    have lzqp7_9 : M2 131 9 + v5 ≤ M6 131 9 := by omega
    clear qp7_9
    refine z_if_eq (tgt := 38) F dX12_readZero_25 (by decide +kernel) (by omega) (fun c8 => ?_) (fun c8 => ?_)
    · refine z_aload_n F dX12_readZero_38 rfl (q := 0) rfl ?_
      refine z_ldcS (j := 71) F dX12_readZero_39 rfl rfl rfl ?_
      refine z_eq (st' := [.ref (ad 1071), .ref (ad 131)]) rfl rfl rfl ?_
      refine zv_i (rest := []) F (kp_X12_took_131_1071 l M6 ⟨hI, hW⟩ ⟨by omega, by omega, by omega, by omega, hT⟩) cs_X12_130 (T := TX12) (N := 44) (ci := 12) rfl gs_131 (by decide) (by decide) rfl rfl rfl (Nat.le_of_ble_eq_true rfl) dX12_readZero_41 (fun v9 M10 rv9 hI p11 => ?_)
      obtain ⟨hI, hW⟩ := hI
      obtain ⟨⟨av9, bv9⟩, fp11, xp11⟩ := p11
      have hF := hF.call fp11 (by decide)
      have tM10_133_6 : M10 133 6 = M6 133 6 := fp11.at (by decide)
      have tM10_133_1 : M10 133 1 = M6 133 1 := fp11.at (by decide)
      have tM10_133_2 : M10 133 2 = M6 133 2 := fp11.at (by decide)
      have tM10_133_4 : M10 133 4 = M6 133 4 := fp11.at (by decide)
      have hq9 := wl_fr fp11 (by decide)
      have hL := hq9.2 hL
      have cM10 := hq9.1
      clear hq9
      obtain ⟨qp11_0, qp11_1, qp11_2, qp11_3, qp11_4, qp11_5, qp11_6, qp11_7, qp11_8, qp11_9⟩ := xp11
      have kbM10 : 0 ≤ M10 131 12 ∧ M10 131 12 ≤ 4 := hI.at (show Bd 131 12 = (0, 4) from rfl)
      have hT : Tk M10 := qp11_7
      clear qp11_7
      have lzqp11_9 : M6 131 9 + v9 ≤ M10 131 9 := by omega
      clear qp11_9
      refine z_if_eq (tgt := 57) F dX12_readZero_44 (by decide +kernel) (by omega) (fun c12 => ?_) (fun c12 => ?_)
      · refine z_aload_n F dX12_readZero_57 rfl (q := 0) rfl ?_
        refine z_ldcS (j := 72) F dX12_readZero_58 rfl rfl rfl ?_
        refine z_eq (st' := [.ref (ad 1072), .ref (ad 131)]) rfl rfl rfl ?_
        refine zv_i (rest := []) F (kp_X12_took_131_1072 l M10 ⟨hI, hW⟩ ⟨by omega, by omega, by omega, by omega, hT⟩) cs_X12_130 (T := TX12) (N := 44) (ci := 12) rfl gs_131 (by decide) (by decide) rfl rfl rfl (Nat.le_of_ble_eq_true rfl) dX12_readZero_60 (fun v13 M14 rv13 hI p15 => ?_)
        obtain ⟨hI, hW⟩ := hI
        obtain ⟨⟨av13, bv13⟩, fp15, xp15⟩ := p15
        have hF := hF.call fp15 (by decide)
        have tM14_133_6 : M14 133 6 = M10 133 6 := fp15.at (by decide)
        have tM14_133_1 : M14 133 1 = M10 133 1 := fp15.at (by decide)
        have tM14_133_2 : M14 133 2 = M10 133 2 := fp15.at (by decide)
        have tM14_133_4 : M14 133 4 = M10 133 4 := fp15.at (by decide)
        have hq9 := wl_fr fp15 (by decide)
        have hL := hq9.2 hL
        have cM14 := hq9.1
        clear hq9
        obtain ⟨qp15_0, qp15_1, qp15_2, qp15_3, qp15_4, qp15_5, qp15_6, qp15_7, qp15_8, qp15_9⟩ := xp15
        have kbM14 : 0 ≤ M14 131 12 ∧ M14 131 12 ≤ 4 := hI.at (show Bd 131 12 = (0, 4) from rfl)
        have hT : Tk M14 := qp15_7
        clear qp15_7
        have lzqp15_9 : M10 131 9 + v13 ≤ M14 131 9 := by omega
        clear qp15_9
        refine z_if_eq (tgt := 76) F dX12_readZero_63 (by decide +kernel) (by omega) (fun c16 => ?_) (fun c16 => ?_)
        · refine z_aload_n F dX12_readZero_76 rfl (q := 0) rfl ?_
          refine z_iconst F dX12_readZero_77 ?_
          refine zv_v (rest := []) F (kp_X12_blames l M14 ⟨hI, hW⟩ 2 (by omega) (by omega)) cs_X12_133 (T := TX12) (N := 44) (ci := 12) rfl gs_131 (by decide) (by decide) rfl rfl rfl (Nat.le_of_ble_eq_true rfl) dX12_readZero_78 (fun M17 hI p18 => ?_)
          obtain ⟨hI, hW⟩ := hI
          obtain ⟨fp18, xp18⟩ := p18
          have hF := hF.call fp18 (by decide)
          have tM17_133_6 : M17 133 6 = M14 133 6 := fp18.at (by decide)
          have tM17_133_1 : M17 133 1 = M14 133 1 := fp18.at (by decide)
          have tM17_133_2 : M17 133 2 = M14 133 2 := fp18.at (by decide)
          have tM17_133_4 : M17 133 4 = M14 133 4 := fp18.at (by decide)
          have hq9 := wl_fr fp18 (by decide)
          have hL := hq9.2 hL
          have cM17 := hq9.1
          clear hq9
          obtain ⟨qp18_0, qp18_1, qp18_2, qp18_3, qp18_4, qp18_5⟩ := xp18
          have kbM17 : 0 ≤ M17 131 12 ∧ M17 131 12 ≤ 4 := hI.at (show Bd 131 12 = (0, 4) from rfl)
          have hT := tk_eq hT qp18_2 qp18_3 qp18_4
          exact hret _ 81 _ ⟨hI, hW⟩ ⟨hF, ⟨hL, by omega, by omega, by omega, by omega, by omega, by omega, by omega, hT, by omega, by omega, by omega⟩⟩ dX12_readZero_81
        · refine z_aload_n F dX12_readZero_66 rfl (q := 0) rfl ?_
          refine rf_X12_13 F gs_131 rfl dX12_readZero_67 ?_
          refine z_iconst F dX12_readZero_70 ?_
          refine z_iconst F dX12_readZero_71 ?_
          refine z_iast F hI gs_133 (by omega) (by omega) (by decide) (show Bd 133 5 = (-2147483648, 2147483647) from rfl) dX12_readZero_72 (by omega) (by omega) (fun M20 hI sf19 f19 => ?_)
          have tM20_131_7 : M20 131 7 = M14 131 7 := f19 131 7 (fun q => absurd q.1 (by decide))
          have tM20_131_8 : M20 131 8 = M14 131 8 := f19 131 8 (fun q => absurd q.1 (by decide))
          have tM20_131_9 : M20 131 9 = M14 131 9 := f19 131 9 (fun q => absurd q.1 (by decide))
          have tM20_131_10 : M20 131 10 = M14 131 10 := f19 131 10 (fun q => absurd q.1 (by decide))
          have tM20_131_12 : M20 131 12 = M14 131 12 := f19 131 12 (fun q => absurd q.1 (by decide))
          have tM20_131_16 : M20 131 16 = M14 131 16 := f19 131 16 (fun q => absurd q.1 (by decide))
          have tM20_133_6 : M20 133 6 = M14 133 6 := f19 133 6 (fun q => absurd q.2 (by decide))
          have tM20_133_1 : M20 133 1 = M14 133 1 := f19 133 1 (fun q => absurd q.2 (by decide))
          have tM20_133_2 : M20 133 2 = M14 133 2 := f19 133 2 (fun q => absurd q.2 (by decide))
          have tM20_133_4 : M20 133 4 = M14 133 4 := f19 133 4 (fun q => absurd q.2 (by decide))
          have hT := tk_ws f19 (by decide) hT
          have hq9 := wl_wr f19 (by omega)
          have hL := hq9.2 hL
          have cM20 := hq9.1
          clear hq9
          have hF := hF.wr f19 (by decide) (by decide)
          have hW : WFk M20 := hW.site f19 (by decide)
          have sf19 : M20 133 5 = 3 := sf19
          refine z_goto (tgt := 81) F dX12_readZero_73 (by decide +kernel) ?_
          exact hret _ 81 _ ⟨hI, hW⟩ ⟨hF, ⟨hL, by omega, by omega, by omega, by omega, by omega, by omega, by omega, hT, by omega, by omega, by omega⟩⟩ dX12_readZero_81
      · refine z_aload_n F dX12_readZero_47 rfl (q := 0) rfl ?_
        refine rf_X12_13 F gs_131 rfl dX12_readZero_48 ?_
        refine z_iconst F dX12_readZero_51 ?_
        refine z_iconst F dX12_readZero_52 ?_
        refine z_iast F hI gs_133 (by omega) (by omega) (by decide) (show Bd 133 5 = (-2147483648, 2147483647) from rfl) dX12_readZero_53 (by omega) (by omega) (fun M22 hI sf21 f21 => ?_)
        have tM22_131_7 : M22 131 7 = M10 131 7 := f21 131 7 (fun q => absurd q.1 (by decide))
        have tM22_131_8 : M22 131 8 = M10 131 8 := f21 131 8 (fun q => absurd q.1 (by decide))
        have tM22_131_9 : M22 131 9 = M10 131 9 := f21 131 9 (fun q => absurd q.1 (by decide))
        have tM22_131_10 : M22 131 10 = M10 131 10 := f21 131 10 (fun q => absurd q.1 (by decide))
        have tM22_131_12 : M22 131 12 = M10 131 12 := f21 131 12 (fun q => absurd q.1 (by decide))
        have tM22_131_16 : M22 131 16 = M10 131 16 := f21 131 16 (fun q => absurd q.1 (by decide))
        have tM22_133_6 : M22 133 6 = M10 133 6 := f21 133 6 (fun q => absurd q.2 (by decide))
        have tM22_133_1 : M22 133 1 = M10 133 1 := f21 133 1 (fun q => absurd q.2 (by decide))
        have tM22_133_2 : M22 133 2 = M10 133 2 := f21 133 2 (fun q => absurd q.2 (by decide))
        have tM22_133_4 : M22 133 4 = M10 133 4 := f21 133 4 (fun q => absurd q.2 (by decide))
        have hT := tk_ws f21 (by decide) hT
        have hq9 := wl_wr f21 (by omega)
        have hL := hq9.2 hL
        have cM22 := hq9.1
        clear hq9
        have hF := hF.wr f21 (by decide) (by decide)
        have hW : WFk M22 := hW.site f21 (by decide)
        have sf21 : M22 133 5 = 2 := sf21
        refine z_goto (tgt := 81) F dX12_readZero_54 (by decide +kernel) ?_
        exact hret _ 81 _ ⟨hI, hW⟩ ⟨hF, ⟨hL, by omega, by omega, by omega, by omega, by omega, by omega, by omega, hT, by omega, by omega, by omega⟩⟩ dX12_readZero_81
    · refine z_aload_n F dX12_readZero_28 rfl (q := 0) rfl ?_
      refine rf_X12_13 F gs_131 rfl dX12_readZero_29 ?_
      refine z_iconst F dX12_readZero_32 ?_
      refine z_iconst F dX12_readZero_33 ?_
      refine z_iast F hI gs_133 (by omega) (by omega) (by decide) (show Bd 133 5 = (-2147483648, 2147483647) from rfl) dX12_readZero_34 (by omega) (by omega) (fun M24 hI sf23 f23 => ?_)
      have tM24_131_7 : M24 131 7 = M6 131 7 := f23 131 7 (fun q => absurd q.1 (by decide))
      have tM24_131_8 : M24 131 8 = M6 131 8 := f23 131 8 (fun q => absurd q.1 (by decide))
      have tM24_131_9 : M24 131 9 = M6 131 9 := f23 131 9 (fun q => absurd q.1 (by decide))
      have tM24_131_10 : M24 131 10 = M6 131 10 := f23 131 10 (fun q => absurd q.1 (by decide))
      have tM24_131_12 : M24 131 12 = M6 131 12 := f23 131 12 (fun q => absurd q.1 (by decide))
      have tM24_131_16 : M24 131 16 = M6 131 16 := f23 131 16 (fun q => absurd q.1 (by decide))
      have tM24_133_6 : M24 133 6 = M6 133 6 := f23 133 6 (fun q => absurd q.2 (by decide))
      have tM24_133_1 : M24 133 1 = M6 133 1 := f23 133 1 (fun q => absurd q.2 (by decide))
      have tM24_133_2 : M24 133 2 = M6 133 2 := f23 133 2 (fun q => absurd q.2 (by decide))
      have tM24_133_4 : M24 133 4 = M6 133 4 := f23 133 4 (fun q => absurd q.2 (by decide))
      have hT := tk_ws f23 (by decide) hT
      have hq9 := wl_wr f23 (by omega)
      have hL := hq9.2 hL
      have cM24 := hq9.1
      clear hq9
      have hF := hF.wr f23 (by decide) (by decide)
      have hW : WFk M24 := hW.site f23 (by decide)
      have sf23 : M24 133 5 = 1 := sf23
      refine z_goto (tgt := 81) F dX12_readZero_35 (by decide +kernel) ?_
      exact hret _ 81 _ ⟨hI, hW⟩ ⟨hF, ⟨hL, by omega, by omega, by omega, by omega, by omega, by omega, by omega, hT, by omega, by omega, by omega⟩⟩ dX12_readZero_81
  · refine z_aload_n F dX12_readZero_9 rfl (q := 0) rfl ?_
    refine rf_X12_13 F gs_131 rfl dX12_readZero_10 ?_
    refine z_iconst F dX12_readZero_13 ?_
    refine z_iconst F dX12_readZero_14 ?_
    refine z_iast F hI gs_133 (by omega) (by omega) (by decide) (show Bd 133 5 = (-2147483648, 2147483647) from rfl) dX12_readZero_15 (by omega) (by omega) (fun M26 hI sf25 f25 => ?_)
    have tM26_131_7 : M26 131 7 = M2 131 7 := f25 131 7 (fun q => absurd q.1 (by decide))
    have tM26_131_8 : M26 131 8 = M2 131 8 := f25 131 8 (fun q => absurd q.1 (by decide))
    have tM26_131_9 : M26 131 9 = M2 131 9 := f25 131 9 (fun q => absurd q.1 (by decide))
    have tM26_131_10 : M26 131 10 = M2 131 10 := f25 131 10 (fun q => absurd q.1 (by decide))
    have tM26_131_12 : M26 131 12 = M2 131 12 := f25 131 12 (fun q => absurd q.1 (by decide))
    have tM26_131_16 : M26 131 16 = M2 131 16 := f25 131 16 (fun q => absurd q.1 (by decide))
    have tM26_133_6 : M26 133 6 = M2 133 6 := f25 133 6 (fun q => absurd q.2 (by decide))
    have tM26_133_1 : M26 133 1 = M2 133 1 := f25 133 1 (fun q => absurd q.2 (by decide))
    have tM26_133_2 : M26 133 2 = M2 133 2 := f25 133 2 (fun q => absurd q.2 (by decide))
    have tM26_133_4 : M26 133 4 = M2 133 4 := f25 133 4 (fun q => absurd q.2 (by decide))
    have hT := tk_ws f25 (by decide) hT
    have hq9 := wl_wr f25 (by omega)
    have hL := hq9.2 hL
    have cM26 := hq9.1
    clear hq9
    have hF := hF.wr f25 (by decide) (by decide)
    have hW : WFk M26 := hW.site f25 (by decide)
    have sf25 : M26 133 5 = 0 := sf25
    refine z_goto (tgt := 81) F dX12_readZero_16 (by decide +kernel) ?_
    exact hret _ 81 _ ⟨hI, hW⟩ ⟨hF, ⟨hL, by omega, by omega, by omega, by omega, by omega, by omega, by omega, hT, by omega, by omega, by omega⟩⟩ dX12_readZero_81
set_option maxHeartbeats 4000000 in
set_option maxRecDepth 4000 in
theorem kp_X12_isWord_131_1058 (l : Launch) (M : Mem) (hJ : Iw M) (hp0 : 0 ≤ M 131 9 ∧ M 131 9 ≤ M 131 8 ∧ M 131 8 ≤ M 131 7 ∧ M 131 7 ≤ 900 ∧ (M 131 10 = 0 ∨ M 131 9 < M 131 8)) : CI l yX12_isWord cX12_isWord 4 (some .boolean) 5 (fun ad => [.ref (ad 131), .ref (ad 1058)]) M (fun z M' => (0 ≤ z ∧ z ≤ 1) ∧ M = M' ∧ (z = 1 → M 131 12 = 0 ∧ M 131 10 = 1)) := by
  obtain ⟨hI, hW⟩ := hJ
  refine en_z (by decide +kernel) (fun ad => by exact Nat.le_of_ble_eq_true rfl) (fun D cy ad A p e s m args below meth c Q F hret => ?_)
  refine z_eq (ls' := [(0, .ref (ad 131)), (1, .ref (ad 1058))]) rfl rfl rfl ?_
  obtain ⟨u1, eu1⟩ : ∃ v : Int, v = M 131 7 := ⟨_, rfl⟩
  have ku1 : 0 ≤ u1 ∧ u1 ≤ 900 := by have := hI.at (show Bd 131 7 = (0, 900) from rfl); omega
  obtain ⟨u2, eu2⟩ : ∃ v : Int, v = M 131 8 := ⟨_, rfl⟩
  have ku2 : 0 ≤ u2 ∧ u2 ≤ 900 := by have := hI.at (show Bd 131 8 = (0, 900) from rfl); omega
  obtain ⟨u3, eu3⟩ : ∃ v : Int, v = M 131 9 := ⟨_, rfl⟩
  have ku3 : 0 ≤ u3 ∧ u3 ≤ 900 := by have := hI.at (show Bd 131 9 = (0, 900) from rfl); omega
  obtain ⟨u4, eu4⟩ : ∃ v : Int, v = M 131 10 := ⟨_, rfl⟩
  have ku4 : (-2147483648) ≤ u4 ∧ u4 ≤ 2147483647 := by have := hI.at (show Bd 131 10 = (-2147483648, 2147483647) from rfl); omega
  obtain ⟨u5, eu5⟩ : ∃ v : Int, v = M 131 12 := ⟨_, rfl⟩
  have ku5 : 0 ≤ u5 ∧ u5 ≤ 4 := by have := hI.at (show Bd 131 12 = (0, 4) from rfl); omega
  obtain ⟨u6, eu6⟩ : ∃ v : Int, v = M 131 16 := ⟨_, rfl⟩
  have ku6 : (-2147483648) ≤ u6 ∧ u6 ≤ 2147483647 := by have := hI.at (show Bd 131 16 = (-2147483648, 2147483647) from rfl); omega
  refine z_aload_n F dX12_isWord_0 rfl (q := 0) rfl ?_
  refine gf_X12_108 F hI gs_131 rfl bd_131_12 dX12_isWord_1 (fun v7 ev7 av7 bv7 => ?_)
  have zv7 : u5 = v7 := eu5.trans ev7.symm
  subst zv7
  refine z_if_ne (tgt := 35) F dX12_isWord_4 (by decide +kernel) (by omega) (fun c8 => ?_) (fun c8 => ?_)
  · refine z_iconst F dX12_isWord_35 ?_
    refine z_istore_n F dX12_isWord_36 rfl (by decide) (ls' := [(2, ii 0), (0, .ref (ad 131)), (1, .ref (ad 1058))]) rfl ?_
    refine z_iconst F dX12_isWord_37 ?_
    refine z_istore_n F dX12_isWord_38 rfl (by decide) (ls' := [(3, ii 0), (2, ii 0), (0, .ref (ad 131)), (1, .ref (ad 1058))]) rfl ?_
    refine z_loc [2, 3, 1, 0] (ls' := [(0, .ref (ad 131)), (1, .ref (ad 1058)), (2, ii 0), (3, ii 0)]) rfl ?_
    suffices key39 : ∀ (n : Nat) (y10 : Int) (y11 : Int), 0 ≤ y10 → y10 ≤ 0 → 0 ≤ y11 → y11 ≤ 0 → (y10 = 1 → M 131 12 = 0 ∧ M 131 10 = 1 ∧ M 131 8 - M 131 9 = 5) → 0 < (n : Int) → Z D cy ad p l e (RMh 5) s m args below meth c A 4 0 0 Q 39 [(0, .ref (ad 131)), (1, .ref (ad 1058)), (2, ii y10), (3, ii y11)] [] M from key39 1 0 0 (by omega) (by omega) (by omega) (by omega) (by omega) (by omega)
    intro n39
    induction n39 with
    | zero => intro y10 y11 ay10 by10 ay11 by11 i39_0 hn39; exfalso; omega
    | succ n39 ih39 =>
      intro y10 y11 ay10 by10 ay11 by11 i39_0 hn39
      refine z_iload_n F dX12_isWord_39 rfl (q := 2) rfl ?_
      refine z_if_eq (tgt := 82) F dX12_isWord_40 (by decide +kernel) (by omega) (fun c12 => ?_) (fun c12 => by exfalso; omega)
      refine z_iload_n F dX12_isWord_82 rfl (q := 2) rfl ?_
      exact hret _ _ 83 _ ⟨by omega, by omega⟩ ⟨hI, hW⟩ ⟨⟨by omega, by omega⟩, rfl, (by omega)⟩ dX12_isWord_83
  · refine z_aload_n F dX12_isWord_7 rfl (q := 0) rfl ?_
    refine gf_X12_88 F hI gs_131 rfl bd_131_10 dX12_isWord_8 (fun v13 ev13 av13 bv13 => ?_)
    have zv13 : u4 = v13 := eu4.trans ev13.symm
    subst zv13
    refine z_iconst F dX12_isWord_11 ?_
    refine z_icmp_ne (tgt := 35) F dX12_isWord_12 (by decide +kernel) (by omega) (by omega) (fun c14 => ?_) (fun c14 => ?_)
    · refine z_iconst F dX12_isWord_35 ?_
      refine z_istore_n F dX12_isWord_36 rfl (by decide) (ls' := [(2, ii 0), (0, .ref (ad 131)), (1, .ref (ad 1058))]) rfl ?_
      refine z_iconst F dX12_isWord_37 ?_
      refine z_istore_n F dX12_isWord_38 rfl (by decide) (ls' := [(3, ii 0), (2, ii 0), (0, .ref (ad 131)), (1, .ref (ad 1058))]) rfl ?_
      refine z_loc [2, 3, 1, 0] (ls' := [(0, .ref (ad 131)), (1, .ref (ad 1058)), (2, ii 0), (3, ii 0)]) rfl ?_
      suffices key39 : ∀ (n : Nat) (y16 : Int) (y17 : Int), 0 ≤ y16 → y16 ≤ 0 → 0 ≤ y17 → y17 ≤ 0 → (y16 = 1 → M 131 12 = 0 ∧ M 131 10 = 1 ∧ M 131 8 - M 131 9 = 5) → 0 < (n : Int) → Z D cy ad p l e (RMh 5) s m args below meth c A 4 0 0 Q 39 [(0, .ref (ad 131)), (1, .ref (ad 1058)), (2, ii y16), (3, ii y17)] [] M from key39 1 0 0 (by omega) (by omega) (by omega) (by omega) (by omega) (by omega)
      intro n39
      induction n39 with
      | zero => intro y16 y17 ay16 by16 ay17 by17 i39_0 hn39; exfalso; omega
      | succ n39 ih39 =>
        intro y16 y17 ay16 by16 ay17 by17 i39_0 hn39
        refine z_iload_n F dX12_isWord_39 rfl (q := 2) rfl ?_
        refine z_if_eq (tgt := 82) F dX12_isWord_40 (by decide +kernel) (by omega) (fun c18 => ?_) (fun c18 => by exfalso; omega)
        refine z_iload_n F dX12_isWord_82 rfl (q := 2) rfl ?_
        exact hret _ _ 83 _ ⟨by omega, by omega⟩ ⟨hI, hW⟩ ⟨⟨by omega, by omega⟩, rfl, (by omega)⟩ dX12_isWord_83
    · refine z_aload_n F dX12_isWord_15 rfl (q := 0) rfl ?_
      refine gf_X12_82 F hI gs_131 rfl bd_131_8 dX12_isWord_16 (fun v19 ev19 av19 bv19 => ?_)
      have zv19 : u2 = v19 := eu2.trans ev19.symm
      subst zv19
      refine z_aload_n F dX12_isWord_19 rfl (q := 0) rfl ?_
      refine gf_X12_85 F hI gs_131 rfl bd_131_9 dX12_isWord_20 (fun v20 ev20 av20 bv20 => ?_)
      have zv20 : u3 = v20 := eu3.trans ev20.symm
      subst zv20
      refine z_isub F dX12_isWord_23 ?_
      refine z_aload_n F dX12_isWord_24 rfl (q := 1) rfl ?_
      refine zvs_i (i := 58) (rest := [ii (u2 - u3)]) F (kS_len l M ⟨hI, hW⟩ 58 (by decide)) cs_X12_114 (by decide) (by decide) (by decide) rfl rfl rfl (Nat.le_of_ble_eq_true rfl) dX12_isWord_25 (fun v21 M9 rv21 hI9 pv21 => ?_)
      obtain ⟨ev21, rfl⟩ := pv21
      obtain rfl : v21 = 5 := ev21.trans (show ((sbyt.getD 58 []).length : Int) = 5 from by decide)
      clear hI9
      refine z_icmp_ne (tgt := 35) F dX12_isWord_28 (by decide +kernel) (by omega) (by omega) (fun c22 => ?_) (fun c22 => ?_)
      · refine z_iconst F dX12_isWord_35 ?_
        refine z_istore_n F dX12_isWord_36 rfl (by decide) (ls' := [(2, ii 0), (0, .ref (ad 131)), (1, .ref (ad 1058))]) rfl ?_
        refine z_iconst F dX12_isWord_37 ?_
        refine z_istore_n F dX12_isWord_38 rfl (by decide) (ls' := [(3, ii 0), (2, ii 0), (0, .ref (ad 131)), (1, .ref (ad 1058))]) rfl ?_
        refine z_loc [2, 3, 1, 0] (ls' := [(0, .ref (ad 131)), (1, .ref (ad 1058)), (2, ii 0), (3, ii 0)]) rfl ?_
        suffices key39 : ∀ (n : Nat) (y24 : Int) (y25 : Int), 0 ≤ y24 → y24 ≤ 0 → 0 ≤ y25 → y25 ≤ 0 → (y24 = 1 → M 131 12 = 0 ∧ M 131 10 = 1 ∧ M 131 8 - M 131 9 = 5) → 0 < (n : Int) → Z D cy ad p l e (RMh 5) s m args below meth c A 4 0 0 Q 39 [(0, .ref (ad 131)), (1, .ref (ad 1058)), (2, ii y24), (3, ii y25)] [] M from key39 1 0 0 (by omega) (by omega) (by omega) (by omega) (by omega) (by omega)
        intro n39
        induction n39 with
        | zero => intro y24 y25 ay24 by24 ay25 by25 i39_0 hn39; exfalso; omega
        | succ n39 ih39 =>
          intro y24 y25 ay24 by24 ay25 by25 i39_0 hn39
          refine z_iload_n F dX12_isWord_39 rfl (q := 2) rfl ?_
          refine z_if_eq (tgt := 82) F dX12_isWord_40 (by decide +kernel) (by omega) (fun c26 => ?_) (fun c26 => by exfalso; omega)
          refine z_iload_n F dX12_isWord_82 rfl (q := 2) rfl ?_
          exact hret _ _ 83 _ ⟨by omega, by omega⟩ ⟨hI, hW⟩ ⟨⟨by omega, by omega⟩, rfl, (by omega)⟩ dX12_isWord_83
      · refine z_iconst F dX12_isWord_31 ?_
        refine z_goto (tgt := 36) F dX12_isWord_32 (by decide +kernel) ?_
        refine z_istore_n F dX12_isWord_36 rfl (by decide) (ls' := [(2, ii 1), (0, .ref (ad 131)), (1, .ref (ad 1058))]) rfl ?_
        refine z_iconst F dX12_isWord_37 ?_
        refine z_istore_n F dX12_isWord_38 rfl (by decide) (ls' := [(3, ii 0), (2, ii 1), (0, .ref (ad 131)), (1, .ref (ad 1058))]) rfl ?_
        refine z_loc [2, 3, 1, 0] (ls' := [(0, .ref (ad 131)), (1, .ref (ad 1058)), (2, ii 1), (3, ii 0)]) rfl ?_
        suffices key39 : ∀ (n : Nat) (y28 : Int) (y29 : Int), 0 ≤ y28 → y28 ≤ 1 → 0 ≤ y29 → y29 ≤ 5 → (y28 = 1 → M 131 12 = 0 ∧ M 131 10 = 1 ∧ M 131 8 - M 131 9 = 5) → 5 - y29 < (n : Int) → Z D cy ad p l e (RMh 5) s m args below meth c A 4 0 0 Q 39 [(0, .ref (ad 131)), (1, .ref (ad 1058)), (2, ii y28), (3, ii y29)] [] M from key39 6 1 0 (by omega) (by omega) (by omega) (by omega) (by omega) (by omega)
        intro n39
        induction n39 with
        | zero => intro y28 y29 ay28 by28 ay29 by29 i39_0 hn39; exfalso; omega
        | succ n39 ih39 =>
          intro y28 y29 ay28 by28 ay29 by29 i39_0 hn39
          refine z_iload_n F dX12_isWord_39 rfl (q := 2) rfl ?_
          refine z_if_eq (tgt := 82) F dX12_isWord_40 (by decide +kernel) (by omega) (fun c30 => ?_) (fun c30 => ?_)
          · refine z_iload_n F dX12_isWord_82 rfl (q := 2) rfl ?_
            exact hret _ _ 83 _ ⟨by omega, by omega⟩ ⟨hI, hW⟩ ⟨⟨by omega, by omega⟩, rfl, (by omega)⟩ dX12_isWord_83
          · refine z_iload_n F dX12_isWord_43 rfl (q := 3) rfl ?_
            refine z_aload_n F dX12_isWord_44 rfl (q := 1) rfl ?_
            refine zvs_i (i := 58) (rest := [ii y29]) F (kS_len l M ⟨hI, hW⟩ 58 (by decide)) cs_X12_114 (by decide) (by decide) (by decide) rfl rfl rfl (Nat.le_of_ble_eq_true rfl) dX12_isWord_45 (fun v31 M9 rv31 hI9 pv31 => ?_)
            obtain ⟨ev31, rfl⟩ := pv31
            obtain rfl : v31 = 5 := ev31.trans (show ((sbyt.getD 58 []).length : Int) = 5 from by decide)
            clear hI9
            refine z_icmp_ge (tgt := 82) F dX12_isWord_48 (by decide +kernel) (by omega) (by omega) (fun c32 => ?_) (fun c32 => ?_)
            · refine z_iload_n F dX12_isWord_82 rfl (q := 2) rfl ?_
              exact hret _ _ 83 _ ⟨by omega, by omega⟩ ⟨hI, hW⟩ ⟨⟨by omega, by omega⟩, rfl, (by omega)⟩ dX12_isWord_83
            · refine z_aload_n F dX12_isWord_51 rfl (q := 0) rfl ?_
              refine rf_X12_23 F gs_131 rfl dX12_isWord_52 ?_
              refine z_aload_n F dX12_isWord_55 rfl (q := 0) rfl ?_
              refine gf_X12_85 F hI gs_131 rfl bd_131_9 dX12_isWord_56 (fun v33 ev33 av33 bv33 => ?_)
              have zv33 : u3 = v33 := eu3.trans ev33.symm
              subst zv33
              refine z_iload_n F dX12_isWord_59 rfl (q := 3) rfl ?_
              refine z_iadd F dX12_isWord_60 ?_
              have k34 : 0 ≤ (u3 + y29) ∧ (u3 + y29) ≤ 899 := by omega
              refine z_iald F hI gs_136 (by omega) (by omega) (by decide) bd_136 dX12_isWord_61 (fun v35 (ev35 : v35 = M 136 _) av35 bv35 => ?_)
              refine z_aload_n F dX12_isWord_62 rfl (q := 1) rfl ?_
              refine z_iload_n F dX12_isWord_63 rfl (q := 3) rfl ?_
              refine zvs_i (i := 58) (rest := [ii v35]) F (kS_chr l M ⟨hI, hW⟩ 58 (by decide) y29 (by omega) (show y29 < ((sbyt.getD 58 []).length : Int) from by rw [show ((sbyt.getD 58 []).length : Int) = 5 from by decide]; omega)) cs_X12_119 (by decide) (by decide) (by decide) rfl rfl rfl (Nat.le_of_ble_eq_true rfl) dX12_isWord_64 (fun v36 M9 rv36 hI9 pv36 => ?_)
              obtain ⟨⟨av36, bv36⟩, rfl⟩ := pv36
              clear hI9
              refine z_icmp_ne (tgt := 74) F dX12_isWord_67 (by decide +kernel) (by omega) (by omega) (fun c37 => ?_) (fun c37 => ?_)
              · refine z_iconst F dX12_isWord_74 ?_
                refine z_istore_n F dX12_isWord_75 rfl (by decide) (ls' := [(2, ii 0), (0, .ref (ad 131)), (1, .ref (ad 1058)), (3, ii y29)]) rfl ?_
                refine z_iincN F dX12_isWord_76 (q := 3) rfl (by decide) (fun v38 ev38 => ?_)
                refine z_eq (ls' := [(3, ii v38), (2, ii 0), (0, .ref (ad 131)), (1, .ref (ad 1058))]) rfl rfl rfl ?_
                refine z_goto (tgt := 39) F dX12_isWord_79 (by decide +kernel) ?_
                refine z_loc [2, 3, 1, 0] (ls' := [(0, .ref (ad 131)), (1, .ref (ad 1058)), (2, ii 0), (3, ii v38)]) rfl ?_
                exact ih39 0 v38 (by omega) (by omega) (by omega) (by omega) (by omega) (by omega)
              · refine z_iconst F dX12_isWord_70 ?_
                refine z_goto (tgt := 75) F dX12_isWord_71 (by decide +kernel) ?_
                refine z_istore_n F dX12_isWord_75 rfl (by decide) (ls' := [(2, ii 1), (0, .ref (ad 131)), (1, .ref (ad 1058)), (3, ii y29)]) rfl ?_
                refine z_iincN F dX12_isWord_76 (q := 3) rfl (by decide) (fun v39 ev39 => ?_)
                refine z_eq (ls' := [(3, ii v39), (2, ii 1), (0, .ref (ad 131)), (1, .ref (ad 1058))]) rfl rfl rfl ?_
                refine z_goto (tgt := 39) F dX12_isWord_79 (by decide +kernel) ?_
                refine z_loc [2, 3, 1, 0] (ls' := [(0, .ref (ad 131)), (1, .ref (ad 1058)), (2, ii 1), (3, ii v39)]) rfl ?_
                exact ih39 1 v39 (by omega) (by omega) (by omega) (by omega) (by omega) (by omega)
set_option maxHeartbeats 4000000 in
set_option maxRecDepth 4000 in
theorem kp_X12_isWord_131_1065 (l : Launch) (M : Mem) (hJ : Iw M) (hp0 : 0 ≤ M 131 9 ∧ M 131 9 ≤ M 131 8 ∧ M 131 8 ≤ M 131 7 ∧ M 131 7 ≤ 900 ∧ (M 131 10 = 0 ∨ M 131 9 < M 131 8)) : CI l yX12_isWord cX12_isWord 4 (some .boolean) 5 (fun ad => [.ref (ad 131), .ref (ad 1065)]) M (fun z M' => (0 ≤ z ∧ z ≤ 1) ∧ M = M' ∧ (z = 1 → M 131 12 = 0 ∧ M 131 10 = 1)) := by
  obtain ⟨hI, hW⟩ := hJ
  refine en_z (by decide +kernel) (fun ad => by exact Nat.le_of_ble_eq_true rfl) (fun D cy ad A p e s m args below meth c Q F hret => ?_)
  refine z_eq (ls' := [(0, .ref (ad 131)), (1, .ref (ad 1065))]) rfl rfl rfl ?_
  obtain ⟨u1, eu1⟩ : ∃ v : Int, v = M 131 7 := ⟨_, rfl⟩
  have ku1 : 0 ≤ u1 ∧ u1 ≤ 900 := by have := hI.at (show Bd 131 7 = (0, 900) from rfl); omega
  obtain ⟨u2, eu2⟩ : ∃ v : Int, v = M 131 8 := ⟨_, rfl⟩
  have ku2 : 0 ≤ u2 ∧ u2 ≤ 900 := by have := hI.at (show Bd 131 8 = (0, 900) from rfl); omega
  obtain ⟨u3, eu3⟩ : ∃ v : Int, v = M 131 9 := ⟨_, rfl⟩
  have ku3 : 0 ≤ u3 ∧ u3 ≤ 900 := by have := hI.at (show Bd 131 9 = (0, 900) from rfl); omega
  obtain ⟨u4, eu4⟩ : ∃ v : Int, v = M 131 10 := ⟨_, rfl⟩
  have ku4 : (-2147483648) ≤ u4 ∧ u4 ≤ 2147483647 := by have := hI.at (show Bd 131 10 = (-2147483648, 2147483647) from rfl); omega
  obtain ⟨u5, eu5⟩ : ∃ v : Int, v = M 131 12 := ⟨_, rfl⟩
  have ku5 : 0 ≤ u5 ∧ u5 ≤ 4 := by have := hI.at (show Bd 131 12 = (0, 4) from rfl); omega
  obtain ⟨u6, eu6⟩ : ∃ v : Int, v = M 131 16 := ⟨_, rfl⟩
  have ku6 : (-2147483648) ≤ u6 ∧ u6 ≤ 2147483647 := by have := hI.at (show Bd 131 16 = (-2147483648, 2147483647) from rfl); omega
  refine z_aload_n F dX12_isWord_0 rfl (q := 0) rfl ?_
  refine gf_X12_108 F hI gs_131 rfl bd_131_12 dX12_isWord_1 (fun v7 ev7 av7 bv7 => ?_)
  have zv7 : u5 = v7 := eu5.trans ev7.symm
  subst zv7
  refine z_if_ne (tgt := 35) F dX12_isWord_4 (by decide +kernel) (by omega) (fun c8 => ?_) (fun c8 => ?_)
  · refine z_iconst F dX12_isWord_35 ?_
    refine z_istore_n F dX12_isWord_36 rfl (by decide) (ls' := [(2, ii 0), (0, .ref (ad 131)), (1, .ref (ad 1065))]) rfl ?_
    refine z_iconst F dX12_isWord_37 ?_
    refine z_istore_n F dX12_isWord_38 rfl (by decide) (ls' := [(3, ii 0), (2, ii 0), (0, .ref (ad 131)), (1, .ref (ad 1065))]) rfl ?_
    refine z_loc [2, 3, 1, 0] (ls' := [(0, .ref (ad 131)), (1, .ref (ad 1065)), (2, ii 0), (3, ii 0)]) rfl ?_
    suffices key39 : ∀ (n : Nat) (y10 : Int) (y11 : Int), 0 ≤ y10 → y10 ≤ 0 → 0 ≤ y11 → y11 ≤ 0 → (y10 = 1 → M 131 12 = 0 ∧ M 131 10 = 1 ∧ M 131 8 - M 131 9 = 5) → 0 < (n : Int) → Z D cy ad p l e (RMh 5) s m args below meth c A 4 0 0 Q 39 [(0, .ref (ad 131)), (1, .ref (ad 1065)), (2, ii y10), (3, ii y11)] [] M from key39 1 0 0 (by omega) (by omega) (by omega) (by omega) (by omega) (by omega)
    intro n39
    induction n39 with
    | zero => intro y10 y11 ay10 by10 ay11 by11 i39_0 hn39; exfalso; omega
    | succ n39 ih39 =>
      intro y10 y11 ay10 by10 ay11 by11 i39_0 hn39
      refine z_iload_n F dX12_isWord_39 rfl (q := 2) rfl ?_
      refine z_if_eq (tgt := 82) F dX12_isWord_40 (by decide +kernel) (by omega) (fun c12 => ?_) (fun c12 => by exfalso; omega)
      refine z_iload_n F dX12_isWord_82 rfl (q := 2) rfl ?_
      exact hret _ _ 83 _ ⟨by omega, by omega⟩ ⟨hI, hW⟩ ⟨⟨by omega, by omega⟩, rfl, (by omega)⟩ dX12_isWord_83
  · refine z_aload_n F dX12_isWord_7 rfl (q := 0) rfl ?_
    refine gf_X12_88 F hI gs_131 rfl bd_131_10 dX12_isWord_8 (fun v13 ev13 av13 bv13 => ?_)
    have zv13 : u4 = v13 := eu4.trans ev13.symm
    subst zv13
    refine z_iconst F dX12_isWord_11 ?_
    refine z_icmp_ne (tgt := 35) F dX12_isWord_12 (by decide +kernel) (by omega) (by omega) (fun c14 => ?_) (fun c14 => ?_)
    · refine z_iconst F dX12_isWord_35 ?_
      refine z_istore_n F dX12_isWord_36 rfl (by decide) (ls' := [(2, ii 0), (0, .ref (ad 131)), (1, .ref (ad 1065))]) rfl ?_
      refine z_iconst F dX12_isWord_37 ?_
      refine z_istore_n F dX12_isWord_38 rfl (by decide) (ls' := [(3, ii 0), (2, ii 0), (0, .ref (ad 131)), (1, .ref (ad 1065))]) rfl ?_
      refine z_loc [2, 3, 1, 0] (ls' := [(0, .ref (ad 131)), (1, .ref (ad 1065)), (2, ii 0), (3, ii 0)]) rfl ?_
      suffices key39 : ∀ (n : Nat) (y16 : Int) (y17 : Int), 0 ≤ y16 → y16 ≤ 0 → 0 ≤ y17 → y17 ≤ 0 → (y16 = 1 → M 131 12 = 0 ∧ M 131 10 = 1 ∧ M 131 8 - M 131 9 = 5) → 0 < (n : Int) → Z D cy ad p l e (RMh 5) s m args below meth c A 4 0 0 Q 39 [(0, .ref (ad 131)), (1, .ref (ad 1065)), (2, ii y16), (3, ii y17)] [] M from key39 1 0 0 (by omega) (by omega) (by omega) (by omega) (by omega) (by omega)
      intro n39
      induction n39 with
      | zero => intro y16 y17 ay16 by16 ay17 by17 i39_0 hn39; exfalso; omega
      | succ n39 ih39 =>
        intro y16 y17 ay16 by16 ay17 by17 i39_0 hn39
        refine z_iload_n F dX12_isWord_39 rfl (q := 2) rfl ?_
        refine z_if_eq (tgt := 82) F dX12_isWord_40 (by decide +kernel) (by omega) (fun c18 => ?_) (fun c18 => by exfalso; omega)
        refine z_iload_n F dX12_isWord_82 rfl (q := 2) rfl ?_
        exact hret _ _ 83 _ ⟨by omega, by omega⟩ ⟨hI, hW⟩ ⟨⟨by omega, by omega⟩, rfl, (by omega)⟩ dX12_isWord_83
    · refine z_aload_n F dX12_isWord_15 rfl (q := 0) rfl ?_
      refine gf_X12_82 F hI gs_131 rfl bd_131_8 dX12_isWord_16 (fun v19 ev19 av19 bv19 => ?_)
      have zv19 : u2 = v19 := eu2.trans ev19.symm
      subst zv19
      refine z_aload_n F dX12_isWord_19 rfl (q := 0) rfl ?_
      refine gf_X12_85 F hI gs_131 rfl bd_131_9 dX12_isWord_20 (fun v20 ev20 av20 bv20 => ?_)
      have zv20 : u3 = v20 := eu3.trans ev20.symm
      subst zv20
      refine z_isub F dX12_isWord_23 ?_
      refine z_aload_n F dX12_isWord_24 rfl (q := 1) rfl ?_
      refine zvs_i (i := 65) (rest := [ii (u2 - u3)]) F (kS_len l M ⟨hI, hW⟩ 65 (by decide)) cs_X12_114 (by decide) (by decide) (by decide) rfl rfl rfl (Nat.le_of_ble_eq_true rfl) dX12_isWord_25 (fun v21 M9 rv21 hI9 pv21 => ?_)
      obtain ⟨ev21, rfl⟩ := pv21
      obtain rfl : v21 = 5 := ev21.trans (show ((sbyt.getD 65 []).length : Int) = 5 from by decide)
      clear hI9
      refine z_icmp_ne (tgt := 35) F dX12_isWord_28 (by decide +kernel) (by omega) (by omega) (fun c22 => ?_) (fun c22 => ?_)
      · refine z_iconst F dX12_isWord_35 ?_
        refine z_istore_n F dX12_isWord_36 rfl (by decide) (ls' := [(2, ii 0), (0, .ref (ad 131)), (1, .ref (ad 1065))]) rfl ?_
        refine z_iconst F dX12_isWord_37 ?_
        refine z_istore_n F dX12_isWord_38 rfl (by decide) (ls' := [(3, ii 0), (2, ii 0), (0, .ref (ad 131)), (1, .ref (ad 1065))]) rfl ?_
        refine z_loc [2, 3, 1, 0] (ls' := [(0, .ref (ad 131)), (1, .ref (ad 1065)), (2, ii 0), (3, ii 0)]) rfl ?_
        suffices key39 : ∀ (n : Nat) (y24 : Int) (y25 : Int), 0 ≤ y24 → y24 ≤ 0 → 0 ≤ y25 → y25 ≤ 0 → (y24 = 1 → M 131 12 = 0 ∧ M 131 10 = 1 ∧ M 131 8 - M 131 9 = 5) → 0 < (n : Int) → Z D cy ad p l e (RMh 5) s m args below meth c A 4 0 0 Q 39 [(0, .ref (ad 131)), (1, .ref (ad 1065)), (2, ii y24), (3, ii y25)] [] M from key39 1 0 0 (by omega) (by omega) (by omega) (by omega) (by omega) (by omega)
        intro n39
        induction n39 with
        | zero => intro y24 y25 ay24 by24 ay25 by25 i39_0 hn39; exfalso; omega
        | succ n39 ih39 =>
          intro y24 y25 ay24 by24 ay25 by25 i39_0 hn39
          refine z_iload_n F dX12_isWord_39 rfl (q := 2) rfl ?_
          refine z_if_eq (tgt := 82) F dX12_isWord_40 (by decide +kernel) (by omega) (fun c26 => ?_) (fun c26 => by exfalso; omega)
          refine z_iload_n F dX12_isWord_82 rfl (q := 2) rfl ?_
          exact hret _ _ 83 _ ⟨by omega, by omega⟩ ⟨hI, hW⟩ ⟨⟨by omega, by omega⟩, rfl, (by omega)⟩ dX12_isWord_83
      · refine z_iconst F dX12_isWord_31 ?_
        refine z_goto (tgt := 36) F dX12_isWord_32 (by decide +kernel) ?_
        refine z_istore_n F dX12_isWord_36 rfl (by decide) (ls' := [(2, ii 1), (0, .ref (ad 131)), (1, .ref (ad 1065))]) rfl ?_
        refine z_iconst F dX12_isWord_37 ?_
        refine z_istore_n F dX12_isWord_38 rfl (by decide) (ls' := [(3, ii 0), (2, ii 1), (0, .ref (ad 131)), (1, .ref (ad 1065))]) rfl ?_
        refine z_loc [2, 3, 1, 0] (ls' := [(0, .ref (ad 131)), (1, .ref (ad 1065)), (2, ii 1), (3, ii 0)]) rfl ?_
        suffices key39 : ∀ (n : Nat) (y28 : Int) (y29 : Int), 0 ≤ y28 → y28 ≤ 1 → 0 ≤ y29 → y29 ≤ 5 → (y28 = 1 → M 131 12 = 0 ∧ M 131 10 = 1 ∧ M 131 8 - M 131 9 = 5) → 5 - y29 < (n : Int) → Z D cy ad p l e (RMh 5) s m args below meth c A 4 0 0 Q 39 [(0, .ref (ad 131)), (1, .ref (ad 1065)), (2, ii y28), (3, ii y29)] [] M from key39 6 1 0 (by omega) (by omega) (by omega) (by omega) (by omega) (by omega)
        intro n39
        induction n39 with
        | zero => intro y28 y29 ay28 by28 ay29 by29 i39_0 hn39; exfalso; omega
        | succ n39 ih39 =>
          intro y28 y29 ay28 by28 ay29 by29 i39_0 hn39
          refine z_iload_n F dX12_isWord_39 rfl (q := 2) rfl ?_
          refine z_if_eq (tgt := 82) F dX12_isWord_40 (by decide +kernel) (by omega) (fun c30 => ?_) (fun c30 => ?_)
          · refine z_iload_n F dX12_isWord_82 rfl (q := 2) rfl ?_
            exact hret _ _ 83 _ ⟨by omega, by omega⟩ ⟨hI, hW⟩ ⟨⟨by omega, by omega⟩, rfl, (by omega)⟩ dX12_isWord_83
          · refine z_iload_n F dX12_isWord_43 rfl (q := 3) rfl ?_
            refine z_aload_n F dX12_isWord_44 rfl (q := 1) rfl ?_
            refine zvs_i (i := 65) (rest := [ii y29]) F (kS_len l M ⟨hI, hW⟩ 65 (by decide)) cs_X12_114 (by decide) (by decide) (by decide) rfl rfl rfl (Nat.le_of_ble_eq_true rfl) dX12_isWord_45 (fun v31 M9 rv31 hI9 pv31 => ?_)
            obtain ⟨ev31, rfl⟩ := pv31
            obtain rfl : v31 = 5 := ev31.trans (show ((sbyt.getD 65 []).length : Int) = 5 from by decide)
            clear hI9
            refine z_icmp_ge (tgt := 82) F dX12_isWord_48 (by decide +kernel) (by omega) (by omega) (fun c32 => ?_) (fun c32 => ?_)
            · refine z_iload_n F dX12_isWord_82 rfl (q := 2) rfl ?_
              exact hret _ _ 83 _ ⟨by omega, by omega⟩ ⟨hI, hW⟩ ⟨⟨by omega, by omega⟩, rfl, (by omega)⟩ dX12_isWord_83
            · refine z_aload_n F dX12_isWord_51 rfl (q := 0) rfl ?_
              refine rf_X12_23 F gs_131 rfl dX12_isWord_52 ?_
              refine z_aload_n F dX12_isWord_55 rfl (q := 0) rfl ?_
              refine gf_X12_85 F hI gs_131 rfl bd_131_9 dX12_isWord_56 (fun v33 ev33 av33 bv33 => ?_)
              have zv33 : u3 = v33 := eu3.trans ev33.symm
              subst zv33
              refine z_iload_n F dX12_isWord_59 rfl (q := 3) rfl ?_
              refine z_iadd F dX12_isWord_60 ?_
              have k34 : 0 ≤ (u3 + y29) ∧ (u3 + y29) ≤ 899 := by omega
              refine z_iald F hI gs_136 (by omega) (by omega) (by decide) bd_136 dX12_isWord_61 (fun v35 (ev35 : v35 = M 136 _) av35 bv35 => ?_)
              refine z_aload_n F dX12_isWord_62 rfl (q := 1) rfl ?_
              refine z_iload_n F dX12_isWord_63 rfl (q := 3) rfl ?_
              refine zvs_i (i := 65) (rest := [ii v35]) F (kS_chr l M ⟨hI, hW⟩ 65 (by decide) y29 (by omega) (show y29 < ((sbyt.getD 65 []).length : Int) from by rw [show ((sbyt.getD 65 []).length : Int) = 5 from by decide]; omega)) cs_X12_119 (by decide) (by decide) (by decide) rfl rfl rfl (Nat.le_of_ble_eq_true rfl) dX12_isWord_64 (fun v36 M9 rv36 hI9 pv36 => ?_)
              obtain ⟨⟨av36, bv36⟩, rfl⟩ := pv36
              clear hI9
              refine z_icmp_ne (tgt := 74) F dX12_isWord_67 (by decide +kernel) (by omega) (by omega) (fun c37 => ?_) (fun c37 => ?_)
              · refine z_iconst F dX12_isWord_74 ?_
                refine z_istore_n F dX12_isWord_75 rfl (by decide) (ls' := [(2, ii 0), (0, .ref (ad 131)), (1, .ref (ad 1065)), (3, ii y29)]) rfl ?_
                refine z_iincN F dX12_isWord_76 (q := 3) rfl (by decide) (fun v38 ev38 => ?_)
                refine z_eq (ls' := [(3, ii v38), (2, ii 0), (0, .ref (ad 131)), (1, .ref (ad 1065))]) rfl rfl rfl ?_
                refine z_goto (tgt := 39) F dX12_isWord_79 (by decide +kernel) ?_
                refine z_loc [2, 3, 1, 0] (ls' := [(0, .ref (ad 131)), (1, .ref (ad 1065)), (2, ii 0), (3, ii v38)]) rfl ?_
                exact ih39 0 v38 (by omega) (by omega) (by omega) (by omega) (by omega) (by omega)
              · refine z_iconst F dX12_isWord_70 ?_
                refine z_goto (tgt := 75) F dX12_isWord_71 (by decide +kernel) ?_
                refine z_istore_n F dX12_isWord_75 rfl (by decide) (ls' := [(2, ii 1), (0, .ref (ad 131)), (1, .ref (ad 1065)), (3, ii y29)]) rfl ?_
                refine z_iincN F dX12_isWord_76 (q := 3) rfl (by decide) (fun v39 ev39 => ?_)
                refine z_eq (ls' := [(3, ii v39), (2, ii 1), (0, .ref (ad 131)), (1, .ref (ad 1065))]) rfl rfl rfl ?_
                refine z_goto (tgt := 39) F dX12_isWord_79 (by decide +kernel) ?_
                refine z_loc [2, 3, 1, 0] (ls' := [(0, .ref (ad 131)), (1, .ref (ad 1065)), (2, ii 1), (3, ii v39)]) rfl ?_
                exact ih39 1 v39 (by omega) (by omega) (by omega) (by omega) (by omega) (by omega)
