theorem dX12_readLine_0 : decode cX12_readLine 0 = .ok (.aload_n 0, 1) := by decide +kernel
theorem dX12_readLine_1 : decode cX12_readLine 1 = .ok (.ldc 239, 2) := by decide +kernel
theorem dX12_readLine_10 : decode cX12_readLine 10 = .ok (.invokevirtual 241, 3) := by decide +kernel
theorem dX12_readLine_13 : decode cX12_readLine 13 = .ok (.goto 81, 3) := by decide +kernel
theorem dX12_readLine_16 : decode cX12_readLine 16 = .ok (.aload_n 0, 1) := by decide +kernel
theorem dX12_readLine_17 : decode cX12_readLine 17 = .ok (.ldc 225, 2) := by decide +kernel
theorem dX12_readLine_19 : decode cX12_readLine 19 = .ok (.invokevirtual 123, 3) := by decide +kernel
theorem dX12_readLine_22 : decode cX12_readLine 22 = .ok (.ifCond .eq 10, 3) := by decide +kernel
theorem dX12_readLine_25 : decode cX12_readLine 25 = .ok (.aload_n 0, 1) := by decide +kernel
theorem dX12_readLine_26 : decode cX12_readLine 26 = .ok (.invokevirtual 244, 3) := by decide +kernel
theorem dX12_readLine_29 : decode cX12_readLine 29 = .ok (.goto 65, 3) := by decide +kernel
theorem dX12_readLine_3 : decode cX12_readLine 3 = .ok (.invokevirtual 123, 3) := by decide +kernel
theorem dX12_readLine_32 : decode cX12_readLine 32 = .ok (.aload_n 0, 1) := by decide +kernel
theorem dX12_readLine_33 : decode cX12_readLine 33 = .ok (.ldc 247, 2) := by decide +kernel
theorem dX12_readLine_35 : decode cX12_readLine 35 = .ok (.invokevirtual 123, 3) := by decide +kernel
theorem dX12_readLine_38 : decode cX12_readLine 38 = .ok (.ifCond .eq 10, 3) := by decide +kernel
theorem dX12_readLine_41 : decode cX12_readLine 41 = .ok (.aload_n 0, 1) := by decide +kernel
theorem dX12_readLine_42 : decode cX12_readLine 42 = .ok (.invokevirtual 249, 3) := by decide +kernel
theorem dX12_readLine_45 : decode cX12_readLine 45 = .ok (.goto 49, 3) := by decide +kernel
theorem dX12_readLine_48 : decode cX12_readLine 48 = .ok (.aload_n 0, 1) := by decide +kernel
theorem dX12_readLine_49 : decode cX12_readLine 49 = .ok (.ldc 252, 2) := by decide +kernel
theorem dX12_readLine_51 : decode cX12_readLine 51 = .ok (.invokevirtual 130, 3) := by decide +kernel
theorem dX12_readLine_54 : decode cX12_readLine 54 = .ok (.ifCond .eq 10, 3) := by decide +kernel
theorem dX12_readLine_57 : decode cX12_readLine 57 = .ok (.aload_n 0, 1) := by decide +kernel
theorem dX12_readLine_58 : decode cX12_readLine 58 = .ok (.invokevirtual 254, 3) := by decide +kernel
theorem dX12_readLine_6 : decode cX12_readLine 6 = .ok (.ifCond .eq 10, 3) := by decide +kernel
theorem dX12_readLine_61 : decode cX12_readLine 61 = .ok (.goto 33, 3) := by decide +kernel
theorem dX12_readLine_64 : decode cX12_readLine 64 = .ok (.aload_n 0, 1) := by decide +kernel
theorem dX12_readLine_65 : decode cX12_readLine 65 = .ok (.ldc_w 257, 3) := by decide +kernel
theorem dX12_readLine_68 : decode cX12_readLine 68 = .ok (.invokevirtual 130, 3) := by decide +kernel
theorem dX12_readLine_71 : decode cX12_readLine 71 = .ok (.ifCond .eq 18, 3) := by decide +kernel
theorem dX12_readLine_74 : decode cX12_readLine 74 = .ok (.aload_n 0, 1) := by decide +kernel
theorem dX12_readLine_75 : decode cX12_readLine 75 = .ok (.getfield 13, 3) := by decide +kernel
theorem dX12_readLine_78 : decode cX12_readLine 78 = .ok (.bipush 6, 2) := by decide +kernel
theorem dX12_readLine_80 : decode cX12_readLine 80 = .ok (.iconst 0, 1) := by decide +kernel
theorem dX12_readLine_81 : decode cX12_readLine 81 = .ok (.iastore, 1) := by decide +kernel
theorem dX12_readLine_82 : decode cX12_readLine 82 = .ok (.aload_n 0, 1) := by decide +kernel
theorem dX12_readLine_83 : decode cX12_readLine 83 = .ok (.invokevirtual 165, 3) := by decide +kernel
theorem dX12_readLine_86 : decode cX12_readLine 86 = .ok (.goto 8, 3) := by decide +kernel
theorem dX12_readLine_89 : decode cX12_readLine 89 = .ok (.aload_n 0, 1) := by decide +kernel
theorem dX12_readLine_9 : decode cX12_readLine 9 = .ok (.aload_n 0, 1) := by decide +kernel
theorem dX12_readLine_90 : decode cX12_readLine 90 = .ok (.iconst 2, 1) := by decide +kernel
theorem dX12_readLine_91 : decode cX12_readLine 91 = .ok (.invokevirtual 133, 3) := by decide +kernel
theorem dX12_readLine_94 : decode cX12_readLine 94 = .ok (.aload_n 0, 1) := by decide +kernel
theorem dX12_readLine_95 : decode cX12_readLine 95 = .ok (.invokevirtual 259, 3) := by decide +kernel
theorem dX12_readLine_98 : decode cX12_readLine 98 = .ok (.return_, 1) := by decide +kernel
set_option maxHeartbeats 4000000 in
set_option maxRecDepth 4000 in
theorem kp_X12_readLine (l : Launch) (M : Mem) (hJ : Iw M) (hp0 : 0 ≤ M 131 9 ∧ M 131 9 ≤ M 131 8 ∧ M 131 8 ≤ M 131 7 ∧ M 131 7 ≤ 900 ∧ (M 131 10 = 0 ∨ M 131 9 < M 131 8)) (hp1 : M 133 6 ≤ M 131 9) (hp2 : Wl M) (hp3 : M 131 16 = 0) : CV l yX12_readLine cX12_readLine 1 none 86 (fun ad => [.ref (ad 131)]) M (fun M' => Fr [131, 133, 233] M M' ∧ (Wl M' ∧ M' 131 7 = M 131 7 ∧ M' 131 16 = M 131 16 ∧ M 131 9 ≤ M' 131 9 ∧ 0 ≤ M' 131 9 ∧ M' 131 9 ≤ M' 131 8 ∧ M' 131 8 ≤ M' 131 7 ∧ M' 131 7 ≤ 900 ∧ (M' 131 10 = 0 ∨ M' 131 9 < M' 131 8) ∧ M' 133 6 ≤ M' 131 9 ∧ M' 133 1 = M 133 1 ∧ (M' 131 12 = 0 → M 131 12 = 0 ∧ M 131 9 < M' 131 9)) ∧ (Im (M 131 12 = 0) (tR M' = lineF (tR M)))) := by
  obtain ⟨hI, hW⟩ := hJ
  have hF : Fr [131, 133, 233] M M := Fr.rf
  refine en_v (by decide +kernel) (fun ad => by exact Nat.le_of_ble_eq_true rfl) (fun D cy ad A p e s m args below meth c Q F hret => ?_)
  refine z_eq (ls' := [(0, .ref (ad 131))]) rfl rfl rfl ?_
  have hL := hp2
  obtain ⟨g1, g2, g3, g4, hT⟩ := hp0
  have hT : Tk M := hT
  have kbM : 0 ≤ M 131 12 ∧ M 131 12 ≤ 4 := hI.at (show Bd 131 12 = (0, 4) from rfl)
  refine z_aload_n F dX12_readLine_0 rfl (q := 0) rfl ?_
  refine z_ldcS (j := 58) F dX12_readLine_1 rfl rfl rfl ?_
  refine z_eq (st' := [.ref (ad 1058), .ref (ad 131)]) rfl rfl rfl ?_
  refine zv_i (rest := []) F (kp_X12_isWord_131_1058 l M ⟨hI, hW⟩ ⟨by omega, by omega, by omega, by omega, hT⟩) cs_X12_123 (T := TX12) (N := 44) (ci := 12) rfl gs_131 (by decide) (by decide) rfl rfl rfl (Nat.le_of_ble_eq_true rfl) dX12_readLine_3 (fun v1 M2 rv1 hI p3 => ?_)
  obtain ⟨hI, hW⟩ := hI
  obtain ⟨⟨av1, bv1⟩, rfl, xp3, yp3⟩ := p3
  clear xp3
  refine z_if_eq (tgt := 16) F dX12_readLine_6 (by decide +kernel) (by omega) (fun c4 => ?_) (fun c4 => ?_)
  · refine z_aload_n F dX12_readLine_16 rfl (q := 0) rfl ?_
    refine z_ldcS (j := 60) F dX12_readLine_17 rfl rfl rfl ?_
    refine z_eq (st' := [.ref (ad 1060), .ref (ad 131)]) rfl rfl rfl ?_
    refine zv_i (rest := []) F (kp_X12_isWord_131_1060 l M ⟨hI, hW⟩ ⟨by omega, by omega, by omega, by omega, hT⟩) cs_X12_123 (T := TX12) (N := 44) (ci := 12) rfl gs_131 (by decide) (by decide) rfl rfl rfl (Nat.le_of_ble_eq_true rfl) dX12_readLine_19 (fun v5 M6 rv5 hI p7 => ?_)
    obtain ⟨hI, hW⟩ := hI
    obtain ⟨⟨av5, bv5⟩, rfl, xp7, yp7⟩ := p7
    clear xp7
    refine z_if_eq (tgt := 32) F dX12_readLine_22 (by decide +kernel) (by omega) (fun c8 => ?_) (fun c8 => ?_)
    · refine z_aload_n F dX12_readLine_32 rfl (q := 0) rfl ?_
      refine z_ldcS (j := 65) F dX12_readLine_33 rfl rfl rfl ?_
      refine z_eq (st' := [.ref (ad 1065), .ref (ad 131)]) rfl rfl rfl ?_
      refine zv_i (rest := []) F (kp_X12_isWord_131_1065 l M ⟨hI, hW⟩ ⟨by omega, by omega, by omega, by omega, hT⟩) cs_X12_123 (T := TX12) (N := 44) (ci := 12) rfl gs_131 (by decide) (by decide) rfl rfl rfl (Nat.le_of_ble_eq_true rfl) dX12_readLine_35 (fun v9 M10 rv9 hI p11 => ?_)
      obtain ⟨hI, hW⟩ := hI
      obtain ⟨⟨av9, bv9⟩, rfl, xp11, yp11⟩ := p11
      clear xp11
      refine z_if_eq (tgt := 48) F dX12_readLine_38 (by decide +kernel) (by omega) (fun c12 => ?_) (fun c12 => ?_)
      · refine z_aload_n F dX12_readLine_48 rfl (q := 0) rfl ?_
        refine z_ldcS (j := 68) F dX12_readLine_49 rfl rfl rfl ?_
        refine z_eq (st' := [.ref (ad 1068), .ref (ad 131)]) rfl rfl rfl ?_
        refine zv_i (rest := []) F (kp_X12_took_131_1068 l M ⟨hI, hW⟩ ⟨by omega, by omega, by omega, by omega, hT⟩) cs_X12_130 (T := TX12) (N := 44) (ci := 12) rfl gs_131 (by decide) (by decide) rfl rfl rfl (Nat.le_of_ble_eq_true rfl) dX12_readLine_51 (fun v13 M14 rv13 hI p15 => ?_)
        obtain ⟨hI, hW⟩ := hI
        obtain ⟨⟨av13, bv13⟩, fp15, xp15, yp15⟩ := p15
        have hF := hF.call fp15 (by decide)
        have tM14_133_6 : M14 133 6 = M 133 6 := fp15.at (by decide)
        have tM14_133_1 : M14 133 1 = M 133 1 := fp15.at (by decide)
        have tM14_133_2 : M14 133 2 = M 133 2 := fp15.at (by decide)
        have tM14_133_4 : M14 133 4 = M 133 4 := fp15.at (by decide)
        have tM14_133_3 : M14 133 3 = M 133 3 := fp15.at (by decide)
        have hq9 := wl_fr fp15 (by decide)
        have hL := hq9.2 hL
        have cM14 := hq9.1
        clear hq9
        obtain ⟨qp15_0, qp15_1, qp15_2, qp15_3, qp15_4, qp15_5, qp15_6, qp15_7, qp15_8, qp15_9⟩ := xp15
        have kbM14 : 0 ≤ M14 131 12 ∧ M14 131 12 ≤ 4 := hI.at (show Bd 131 12 = (0, 4) from rfl)
        have hT : Tk M14 := qp15_7
        clear qp15_7
        have lzqp15_9 : M 131 9 + v13 ≤ M14 131 9 := by omega
        clear qp15_9
        refine z_if_eq (tgt := 64) F dX12_readLine_54 (by decide +kernel) (by omega) (fun c16 => ?_) (fun c16 => ?_)
        · refine z_aload_n F dX12_readLine_64 rfl (q := 0) rfl ?_
          refine z_ldcSW (j := 73) F dX12_readLine_65 rfl rfl rfl ?_
          refine z_eq (st' := [.ref (ad 1073), .ref (ad 131)]) rfl rfl rfl ?_
          refine zv_i (rest := []) F (kp_X12_took_131_1073 l M14 ⟨hI, hW⟩ ⟨by omega, by omega, by omega, by omega, hT⟩) cs_X12_130 (T := TX12) (N := 44) (ci := 12) rfl gs_131 (by decide) (by decide) rfl rfl rfl (Nat.le_of_ble_eq_true rfl) dX12_readLine_68 (fun v17 M18 rv17 hI p19 => ?_)
          obtain ⟨hI, hW⟩ := hI
          obtain ⟨⟨av17, bv17⟩, fp19, xp19, yp19⟩ := p19
          have hF := hF.call fp19 (by decide)
          have tM18_133_6 : M18 133 6 = M14 133 6 := fp19.at (by decide)
          have tM18_133_1 : M18 133 1 = M14 133 1 := fp19.at (by decide)
          have tM18_133_2 : M18 133 2 = M14 133 2 := fp19.at (by decide)
          have tM18_133_4 : M18 133 4 = M14 133 4 := fp19.at (by decide)
          have tM18_133_3 : M18 133 3 = M14 133 3 := fp19.at (by decide)
          have hq9 := wl_fr fp19 (by decide)
          have hL := hq9.2 hL
          have cM18 := hq9.1
          clear hq9
          obtain ⟨qp19_0, qp19_1, qp19_2, qp19_3, qp19_4, qp19_5, qp19_6, qp19_7, qp19_8, qp19_9⟩ := xp19
          have kbM18 : 0 ≤ M18 131 12 ∧ M18 131 12 ≤ 4 := hI.at (show Bd 131 12 = (0, 4) from rfl)
          have hT : Tk M18 := qp19_7
          clear qp19_7
          have lzqp19_9 : M14 131 9 + v17 ≤ M18 131 9 := by omega
          clear qp19_9
          refine z_if_eq (tgt := 89) F dX12_readLine_71 (by decide +kernel) (by omega) (fun c20 => ?_) (fun c20 => ?_)
          · refine z_aload_n F dX12_readLine_89 rfl (q := 0) rfl ?_
            refine z_iconst F dX12_readLine_90 ?_
            refine zv_v (rest := []) F (kp_X12_blames l M18 ⟨hI, hW⟩ 2 (by omega) (by omega)) cs_X12_133 (T := TX12) (N := 44) (ci := 12) rfl gs_131 (by decide) (by decide) rfl rfl rfl (Nat.le_of_ble_eq_true rfl) dX12_readLine_91 (fun M21 hI p22 => ?_)
            obtain ⟨hI, hW⟩ := hI
            obtain ⟨fp22, xp22, yp22⟩ := p22
            have hF := hF.call fp22 (by decide)
            have tM21_133_6 : M21 133 6 = M18 133 6 := fp22.at (by decide)
            have tM21_133_1 : M21 133 1 = M18 133 1 := fp22.at (by decide)
            have tM21_133_2 : M21 133 2 = M18 133 2 := fp22.at (by decide)
            have tM21_133_4 : M21 133 4 = M18 133 4 := fp22.at (by decide)
            have tM21_133_3 : M21 133 3 = M18 133 3 := fp22.at (by decide)
            have hq9 := wl_fr fp22 (by decide)
            have hL := hq9.2 hL
            have cM21 := hq9.1
            clear hq9
            obtain ⟨qp22_0, qp22_1, qp22_2, qp22_3, qp22_4, qp22_5⟩ := xp22
            have kbM21 : 0 ≤ M21 131 12 ∧ M21 131 12 ≤ 4 := hI.at (show Bd 131 12 = (0, 4) from rfl)
            have hT := tk_eq hT qp22_2 qp22_3 qp22_4
            refine z_aload_n F dX12_readLine_94 rfl (q := 0) rfl ?_
            refine zv_v (rest := []) F (kp_X12_readStop l M21 ⟨hI, hW⟩ ⟨by omega, by omega, by omega, by omega, hT⟩ (by omega) hL (by omega)) cs_X12_259 (T := TX12) (N := 44) (ci := 12) rfl gs_131 (by decide) (by decide) rfl rfl rfl (Nat.le_of_ble_eq_true rfl) dX12_readLine_95 (fun M23 hI p24 => ?_)
            obtain ⟨hI, hW⟩ := hI
            obtain ⟨fp24, xp24, yp24⟩ := p24
            have hF := hF.call fp24 (by decide)
            obtain ⟨hL, xp24⟩ := xp24
            obtain ⟨qp24_0, qp24_1, qp24_2, qp24_3, qp24_4, qp24_5, qp24_6, qp24_7, qp24_8, qp24_9, qp24_10⟩ := xp24
            have kbM23 : 0 ≤ M23 131 12 ∧ M23 131 12 ≤ 4 := hI.at (show Bd 131 12 = (0, 4) from rfl)
            have hT : Tk M23 := qp24_7
            clear qp24_7
            have lbqp24_10 : M21 131 12 ≤ 4 * M23 131 12 := by omega
            have lpqp24_10 : M21 131 9 + 1 ≤ M23 131 9 + M23 131 12 := by omega
            clear qp24_10
            have b25 := wz_f yp15.1 (by omega)
            have g26 := took_e b25 yp15.2
            have b27 := wz_f yp19.1 (by omega)
            have g28 := (took_e b27 yp19.2).trans g26
            rw [g26] at b27
            have y29 := yp22
            rw [g28] at y29
            exact hret _ 98 _ ⟨hI, hW⟩ ⟨hF, ⟨hL, by omega, by omega, by omega, by omega, by omega, by omega, by omega, hT, by omega, by omega, by omega⟩, (fun h0 => ln_bad (by rw [tR_1]; exact wz_f yp3 (by omega)) (by rw [tR_1]; exact wz_f yp7 (by omega)) (by rw [tR_1]; exact wz_f yp11 (by omega)) (by rw [tR_1]; exact b25) (by rw [tR_1]; exact b27) (by rw [tR_1, tR_2 h0]; exact fz_e y29.symm (fun _ => ((show dR M21 = dR M18 from dR_f (fun b => fp22.at (by decide))).trans ((show dR M18 = dR M14 from dR_f (fun b => fp19.at (by decide))).trans (show dR M14 = dR M from dR_f (fun b => fp15.at (by decide))))))) yp24)⟩ dX12_readLine_98
          · refine z_aload_n F dX12_readLine_74 rfl (q := 0) rfl ?_
            refine rf_X12_13 F gs_131 rfl dX12_readLine_75 ?_
            have hIM18 := hI
            refine z_bipush F dX12_readLine_78 (by decide +kernel) ?_
            refine z_iconst F dX12_readLine_80 ?_
            refine z_iast F hI gs_133 (by omega) (by omega) (by decide) (show Bd 133 6 = (0, 900) from rfl) dX12_readLine_81 (by omega) (by omega) (fun M31 hI sf30 f30 => ?_)
            have tM31_131_7 : M31 131 7 = M18 131 7 := f30 131 7 (fun q => absurd q.1 (by decide))
            have tM31_131_8 : M31 131 8 = M18 131 8 := f30 131 8 (fun q => absurd q.1 (by decide))
            have tM31_131_9 : M31 131 9 = M18 131 9 := f30 131 9 (fun q => absurd q.1 (by decide))
            have tM31_131_10 : M31 131 10 = M18 131 10 := f30 131 10 (fun q => absurd q.1 (by decide))
            have tM31_131_12 : M31 131 12 = M18 131 12 := f30 131 12 (fun q => absurd q.1 (by decide))
            have tM31_131_16 : M31 131 16 = M18 131 16 := f30 131 16 (fun q => absurd q.1 (by decide))
            have tM31_133_1 : M31 133 1 = M18 133 1 := f30 133 1 (fun q => absurd q.2 (by decide))
            have tM31_133_2 : M31 133 2 = M18 133 2 := f30 133 2 (fun q => absurd q.2 (by decide))
            have tM31_133_4 : M31 133 4 = M18 133 4 := f30 133 4 (fun q => absurd q.2 (by decide))
            have tM31_133_3 : M31 133 3 = M18 133 3 := f30 133 3 (fun q => absurd q.2 (by decide))
            have hT := tk_ws f30 (by decide) hT
            have hq9 := wl_z0 (show M31 133 6 = 0 from sf30)
            have hL := hq9.2
            have cM31 := hq9.1
            clear hq9
            have hF := hF.wrn f30 (by decide) (Or.inl (by omega))
            have hW : WFk M31 := hW.site f30 (by decide)
            have sf30 : M31 133 6 = 0 := sf30
            have hIM31 := hI
            refine z_aload_n F dX12_readLine_82 rfl (q := 0) rfl ?_
            refine zv_v (rest := []) F ((RdR_all l 71).1 M31 ⟨hI, hW⟩ ⟨by omega, by omega, by omega, by omega, hT⟩ (by omega) (by omega) (by omega) hL (by omega)) cs_X12_165 (T := TX12) (N := 44) (ci := 12) rfl gs_131 (by decide) (by decide) rfl rfl rfl (Nat.le_of_ble_eq_true rfl) dX12_readLine_83 (fun M32 hI p33 => ?_)
            obtain ⟨hI, hW⟩ := hI
            obtain ⟨fp33, xp33, yp33⟩ := p33
            have hF := hF.call fp33 (by decide)
            have tM32_133_1 : M32 133 1 = M31 133 1 := fp33.fr (by decide) (by decide)
            have tM32_133_2 : M32 133 2 = M31 133 2 := fp33.fr (by decide) (by decide)
            have tM32_133_4 : M32 133 4 = M31 133 4 := fp33.fr (by decide) (by decide)
            have tM32_133_3 : M32 133 3 = M31 133 3 := fp33.fr (by decide) (by decide)
            obtain ⟨hL, xp33⟩ := xp33
            obtain ⟨qp33_0, qp33_1, qp33_2, qp33_3, qp33_4, qp33_5, qp33_6, qp33_7, qp33_8, qp33_9, qp33_10⟩ := xp33
            have kbM32 : 0 ≤ M32 131 12 ∧ M32 131 12 ≤ 4 := hI.at (show Bd 131 12 = (0, 4) from rfl)
            have hT : Tk M32 := qp33_4
            clear qp33_4
            have lbqp33_9 : M31 131 12 ≤ 4 * M32 131 12 := by omega
            clear qp33_9
            refine z_goto (tgt := 94) F dX12_readLine_86 (by decide +kernel) ?_
            refine z_aload_n F dX12_readLine_94 rfl (q := 0) rfl ?_
            refine zv_v (rest := []) F (kp_X12_readStop l M32 ⟨hI, hW⟩ ⟨by omega, by omega, by omega, by omega, hT⟩ (by omega) hL (by omega)) cs_X12_259 (T := TX12) (N := 44) (ci := 12) rfl gs_131 (by decide) (by decide) rfl rfl rfl (Nat.le_of_ble_eq_true rfl) dX12_readLine_95 (fun M34 hI p35 => ?_)
            obtain ⟨hI, hW⟩ := hI
            obtain ⟨fp35, xp35, yp35⟩ := p35
            have hF := hF.call fp35 (by decide)
            obtain ⟨hL, xp35⟩ := xp35
            obtain ⟨qp35_0, qp35_1, qp35_2, qp35_3, qp35_4, qp35_5, qp35_6, qp35_7, qp35_8, qp35_9, qp35_10⟩ := xp35
            have kbM34 : 0 ≤ M34 131 12 ∧ M34 131 12 ≤ 4 := hI.at (show Bd 131 12 = (0, 4) from rfl)
            have hT : Tk M34 := qp35_7
            clear qp35_7
            have lbqp35_10 : M32 131 12 ≤ 4 * M34 131 12 := by omega
            have lpqp35_10 : M32 131 9 + 1 ≤ M34 131 9 + M34 131 12 := by omega
            clear qp35_10
            have b36 := wz_f yp15.1 (by omega)
            have g37 := took_e b36 yp15.2
            have b38 := wz_t yp19.1 (by omega)
            have a39 := took_a b38 yp19.2
            rw [g37] at a39 b38
            have y40 := yp33
            rw [show M31 131 16 = 0 from by omega, (absR_eq (fun j => (f30 131 j (fun q => absurd q.1 (by decide)))) (fun j => (f30 136 j (fun q => absurd q.1 (by decide)))) : absR M31 = absR M18), ← a39] at y40
            exact hret _ 98 _ ⟨hI, hW⟩ ⟨hF, ⟨hL, by omega, by omega, by omega, by omega, by omega, by omega, by omega, hT, by omega, by omega, by omega⟩, (fun h0 => ln_law (by rw [tR_1]; exact wz_f yp3 (by omega)) (by rw [tR_1]; exact wz_f yp7 (by omega)) (by rw [tR_1]; exact wz_f yp11 (by omega)) (by rw [tR_1]; exact b36) (by rw [tR_1]; exact b38) (A := absR M32) (by rw [tR_1]; exact y40) (by rw [tR_2 h0]; exact fz_e rfl (fun _ => ((show dR M32 = dR M31 from dR_g hIM31 (fun b hb => fp33.fr (by decide) ⟨hb.1, hb.2.2⟩)).trans ((show dR M31 = dR M18 from dR_g hIM18 (fun b hb => f30 133 b (fun q => by have := q.2; omega))).trans ((show dR M18 = dR M14 from dR_f (fun b => fp19.at (by decide))).trans (show dR M14 = dR M from dR_f (fun b => fp15.at (by decide)))))))) yp35)⟩ dX12_readLine_98
        · refine z_aload_n F dX12_readLine_57 rfl (q := 0) rfl ?_
          refine zv_v (rest := []) F (kp_X12_readZero l M14 ⟨hI, hW⟩ ⟨by omega, by omega, by omega, by omega, hT⟩ (by omega) hL (by omega)) cs_X12_254 (T := TX12) (N := 44) (ci := 12) rfl gs_131 (by decide) (by decide) rfl rfl rfl (Nat.le_of_ble_eq_true rfl) dX12_readLine_58 (fun M41 hI p42 => ?_)
          obtain ⟨hI, hW⟩ := hI
          obtain ⟨fp42, xp42, yp42⟩ := p42
          have hF := hF.call fp42 (by decide)
          obtain ⟨hL, xp42⟩ := xp42
          obtain ⟨qp42_0, qp42_1, qp42_2, qp42_3, qp42_4, qp42_5, qp42_6, qp42_7, qp42_8, qp42_9, qp42_10⟩ := xp42
          have kbM41 : 0 ≤ M41 131 12 ∧ M41 131 12 ≤ 4 := hI.at (show Bd 131 12 = (0, 4) from rfl)
          have hT : Tk M41 := qp42_7
          clear qp42_7
          have lbqp42_10 : M14 131 12 ≤ 4 * M41 131 12 := by omega
          clear qp42_10
          refine z_goto (tgt := 94) F dX12_readLine_61 (by decide +kernel) ?_
          refine z_aload_n F dX12_readLine_94 rfl (q := 0) rfl ?_
          refine zv_v (rest := []) F (kp_X12_readStop l M41 ⟨hI, hW⟩ ⟨by omega, by omega, by omega, by omega, hT⟩ (by omega) hL (by omega)) cs_X12_259 (T := TX12) (N := 44) (ci := 12) rfl gs_131 (by decide) (by decide) rfl rfl rfl (Nat.le_of_ble_eq_true rfl) dX12_readLine_95 (fun M43 hI p44 => ?_)
          obtain ⟨hI, hW⟩ := hI
          obtain ⟨fp44, xp44, yp44⟩ := p44
          have hF := hF.call fp44 (by decide)
          obtain ⟨hL, xp44⟩ := xp44
          obtain ⟨qp44_0, qp44_1, qp44_2, qp44_3, qp44_4, qp44_5, qp44_6, qp44_7, qp44_8, qp44_9, qp44_10⟩ := xp44
          have kbM43 : 0 ≤ M43 131 12 ∧ M43 131 12 ≤ 4 := hI.at (show Bd 131 12 = (0, 4) from rfl)
          have hT : Tk M43 := qp44_7
          clear qp44_7
          have lbqp44_10 : M41 131 12 ≤ 4 * M43 131 12 := by omega
          have lpqp44_10 : M41 131 9 + 1 ≤ M43 131 9 + M43 131 12 := by omega
          clear qp44_10
          have b45 := wz_t yp15.1 (by omega)
          have a46 := took_a b45 yp15.2
          exact hret _ 98 _ ⟨hI, hW⟩ ⟨hF, ⟨hL, by omega, by omega, by omega, by omega, by omega, by omega, by omega, hT, by omega, by omega, by omega⟩, (fun h0 => ln_zero (by rw [tR_1]; exact wz_f yp3 (by omega)) (by rw [tR_1]; exact wz_f yp7 (by omega)) (by rw [tR_1]; exact wz_f yp11 (by omega)) (by rw [tR_1]; exact b45) (by rw [yp42, tR_1, tR_2 h0, a46, (show dR M14 = dR M from dR_f (fun b => fp15.at (by decide)))]) yp44)⟩ dX12_readLine_98
      · refine z_aload_n F dX12_readLine_41 rfl (q := 0) rfl ?_
        refine zv_v (rest := []) F (kp_X12_readEvent l M ⟨hI, hW⟩ ⟨by omega, by omega, by omega, by omega, hT⟩ (by omega) hL (by omega)) cs_X12_249 (T := TX12) (N := 44) (ci := 12) rfl gs_131 (by decide) (by decide) rfl rfl rfl (Nat.le_of_ble_eq_true rfl) dX12_readLine_42 (fun M47 hI p48 => ?_)
        obtain ⟨hI, hW⟩ := hI
        obtain ⟨fp48, xp48, yp48⟩ := p48
        have hF := hF.call fp48 (by decide)
        obtain ⟨hL, xp48⟩ := xp48
        obtain ⟨qp48_0, qp48_1, qp48_2, qp48_3, qp48_4, qp48_5, qp48_6, qp48_7, qp48_8, qp48_9, qp48_10⟩ := xp48
        have kbM47 : 0 ≤ M47 131 12 ∧ M47 131 12 ≤ 4 := hI.at (show Bd 131 12 = (0, 4) from rfl)
        have hT : Tk M47 := qp48_7
        clear qp48_7
        have lbqp48_10 : M 131 12 ≤ 4 * M47 131 12 := by omega
        clear qp48_10
        refine z_goto (tgt := 94) F dX12_readLine_45 (by decide +kernel) ?_
        refine z_aload_n F dX12_readLine_94 rfl (q := 0) rfl ?_
        refine zv_v (rest := []) F (kp_X12_readStop l M47 ⟨hI, hW⟩ ⟨by omega, by omega, by omega, by omega, hT⟩ (by omega) hL (by omega)) cs_X12_259 (T := TX12) (N := 44) (ci := 12) rfl gs_131 (by decide) (by decide) rfl rfl rfl (Nat.le_of_ble_eq_true rfl) dX12_readLine_95 (fun M49 hI p50 => ?_)
        obtain ⟨hI, hW⟩ := hI
        obtain ⟨fp50, xp50, yp50⟩ := p50
        have hF := hF.call fp50 (by decide)
        obtain ⟨hL, xp50⟩ := xp50
        obtain ⟨qp50_0, qp50_1, qp50_2, qp50_3, qp50_4, qp50_5, qp50_6, qp50_7, qp50_8, qp50_9, qp50_10⟩ := xp50
        have kbM49 : 0 ≤ M49 131 12 ∧ M49 131 12 ≤ 4 := hI.at (show Bd 131 12 = (0, 4) from rfl)
        have hT : Tk M49 := qp50_7
        clear qp50_7
        have lbqp50_10 : M47 131 12 ≤ 4 * M49 131 12 := by omega
        have lpqp50_10 : M47 131 9 + 1 ≤ M49 131 9 + M49 131 12 := by omega
        clear qp50_10
        exact hret _ 98 _ ⟨hI, hW⟩ ⟨hF, ⟨hL, by omega, by omega, by omega, by omega, by omega, by omega, by omega, hT, by omega, by omega, by omega⟩, (fun h0 => ln_event (by rw [tR_1]; exact wz_f yp3 (by omega)) (by rw [tR_1]; exact wz_f yp7 (by omega)) (by rw [tR_1]; exact wz_t yp11 (by omega)) (by rw [tR_0 h0]; exact yp48 h0 (by have g9 := (isW_iff.mp (wz_t yp11 (by omega))).2.1; rw [(vR_tk h0).1] at g9; unfold tkR at g9; omega)) yp50)⟩ dX12_readLine_98
    · refine z_aload_n F dX12_readLine_25 rfl (q := 0) rfl ?_
      refine zv_v (rest := []) F (kp_X12_readThing l M ⟨hI, hW⟩ ⟨by omega, by omega, by omega, by omega, hT⟩ (by omega) hL (by omega)) cs_X12_244 (T := TX12) (N := 44) (ci := 12) rfl gs_131 (by decide) (by decide) rfl rfl rfl (Nat.le_of_ble_eq_true rfl) dX12_readLine_26 (fun M51 hI p52 => ?_)
      obtain ⟨hI, hW⟩ := hI
      obtain ⟨fp52, xp52, yp52⟩ := p52
      have hF := hF.call fp52 (by decide)
      obtain ⟨hL, xp52⟩ := xp52
      obtain ⟨qp52_0, qp52_1, qp52_2, qp52_3, qp52_4, qp52_5, qp52_6, qp52_7, qp52_8, qp52_9, qp52_10⟩ := xp52
      have kbM51 : 0 ≤ M51 131 12 ∧ M51 131 12 ≤ 4 := hI.at (show Bd 131 12 = (0, 4) from rfl)
      have hT : Tk M51 := qp52_7
      clear qp52_7
      have lbqp52_10 : M 131 12 ≤ 4 * M51 131 12 := by omega
      clear qp52_10
      refine z_goto (tgt := 94) F dX12_readLine_29 (by decide +kernel) ?_
      refine z_aload_n F dX12_readLine_94 rfl (q := 0) rfl ?_
      refine zv_v (rest := []) F (kp_X12_readStop l M51 ⟨hI, hW⟩ ⟨by omega, by omega, by omega, by omega, hT⟩ (by omega) hL (by omega)) cs_X12_259 (T := TX12) (N := 44) (ci := 12) rfl gs_131 (by decide) (by decide) rfl rfl rfl (Nat.le_of_ble_eq_true rfl) dX12_readLine_95 (fun M53 hI p54 => ?_)
      obtain ⟨hI, hW⟩ := hI
      obtain ⟨fp54, xp54, yp54⟩ := p54
      have hF := hF.call fp54 (by decide)
      obtain ⟨hL, xp54⟩ := xp54
      obtain ⟨qp54_0, qp54_1, qp54_2, qp54_3, qp54_4, qp54_5, qp54_6, qp54_7, qp54_8, qp54_9, qp54_10⟩ := xp54
      have kbM53 : 0 ≤ M53 131 12 ∧ M53 131 12 ≤ 4 := hI.at (show Bd 131 12 = (0, 4) from rfl)
      have hT : Tk M53 := qp54_7
      clear qp54_7
      have lbqp54_10 : M51 131 12 ≤ 4 * M53 131 12 := by omega
      have lpqp54_10 : M51 131 9 + 1 ≤ M53 131 9 + M53 131 12 := by omega
      clear qp54_10
      exact hret _ 98 _ ⟨hI, hW⟩ ⟨hF, ⟨hL, by omega, by omega, by omega, by omega, by omega, by omega, by omega, hT, by omega, by omega, by omega⟩, (fun h0 => ln_thing (by rw [tR_1]; exact wz_f yp3 (by omega)) (by rw [tR_1]; exact wz_t yp7 (by omega)) (by rw [tR_0 h0]; exact yp52 h0 (by have g9 := (isW_iff.mp (wz_t yp7 (by omega))).2.1; rw [(vR_tk h0).1] at g9; unfold tkR at g9; omega)) yp54)⟩ dX12_readLine_98
  · refine z_aload_n F dX12_readLine_9 rfl (q := 0) rfl ?_
    refine zv_v (rest := []) F (kp_X12_readTouch l M ⟨hI, hW⟩ ⟨by omega, by omega, by omega, by omega, hT⟩ (by omega) hL (by omega)) cs_X12_241 (T := TX12) (N := 44) (ci := 12) rfl gs_131 (by decide) (by decide) rfl rfl rfl (Nat.le_of_ble_eq_true rfl) dX12_readLine_10 (fun M55 hI p56 => ?_)
    obtain ⟨hI, hW⟩ := hI
    obtain ⟨fp56, xp56, yp56⟩ := p56
    have hF := hF.call fp56 (by decide)
    obtain ⟨hL, xp56⟩ := xp56
    obtain ⟨qp56_0, qp56_1, qp56_2, qp56_3, qp56_4, qp56_5, qp56_6, qp56_7, qp56_8, qp56_9, qp56_10⟩ := xp56
    have kbM55 : 0 ≤ M55 131 12 ∧ M55 131 12 ≤ 4 := hI.at (show Bd 131 12 = (0, 4) from rfl)
    have hT : Tk M55 := qp56_7
    clear qp56_7
    have lbqp56_10 : M 131 12 ≤ 4 * M55 131 12 := by omega
    clear qp56_10
    refine z_goto (tgt := 94) F dX12_readLine_13 (by decide +kernel) ?_
    refine z_aload_n F dX12_readLine_94 rfl (q := 0) rfl ?_
    refine zv_v (rest := []) F (kp_X12_readStop l M55 ⟨hI, hW⟩ ⟨by omega, by omega, by omega, by omega, hT⟩ (by omega) hL (by omega)) cs_X12_259 (T := TX12) (N := 44) (ci := 12) rfl gs_131 (by decide) (by decide) rfl rfl rfl (Nat.le_of_ble_eq_true rfl) dX12_readLine_95 (fun M57 hI p58 => ?_)
    obtain ⟨hI, hW⟩ := hI
    obtain ⟨fp58, xp58, yp58⟩ := p58
    have hF := hF.call fp58 (by decide)
    obtain ⟨hL, xp58⟩ := xp58
    obtain ⟨qp58_0, qp58_1, qp58_2, qp58_3, qp58_4, qp58_5, qp58_6, qp58_7, qp58_8, qp58_9, qp58_10⟩ := xp58
    have kbM57 : 0 ≤ M57 131 12 ∧ M57 131 12 ≤ 4 := hI.at (show Bd 131 12 = (0, 4) from rfl)
    have hT : Tk M57 := qp58_7
    clear qp58_7
    have lbqp58_10 : M55 131 12 ≤ 4 * M57 131 12 := by omega
    have lpqp58_10 : M55 131 9 + 1 ≤ M57 131 9 + M57 131 12 := by omega
    clear qp58_10
    exact hret _ 98 _ ⟨hI, hW⟩ ⟨hF, ⟨hL, by omega, by omega, by omega, by omega, by omega, by omega, by omega, hT, by omega, by omega, by omega⟩, (fun h0 => ln_touch  (by rw [tR_1]; exact wz_t yp3 (by omega)) (by rw [tR_0 h0]; exact yp56 h0 (by have g9 := (isW_iff.mp (wz_t yp3 (by omega))).2.1; rw [(vR_tk h0).1] at g9; unfold tkR at g9; omega)) yp58)⟩ dX12_readLine_98
set_option maxHeartbeats 4000000 in
set_option maxRecDepth 4000 in
theorem kp_X12_isWord_131_1057 (l : Launch) (M : Mem) (hJ : Iw M) (hp0 : 0 ≤ M 131 9 ∧ M 131 9 ≤ M 131 8 ∧ M 131 8 ≤ M 131 7 ∧ M 131 7 ≤ 900 ∧ (M 131 10 = 0 ∨ M 131 9 < M 131 8)) : CI l yX12_isWord cX12_isWord 4 (some .boolean) 5 (fun ad => [.ref (ad 131), .ref (ad 1057)]) M (fun z M' => (0 ≤ z ∧ z ≤ 1) ∧ M = M' ∧ (z = 1 → M 131 12 = 0 ∧ M 131 10 = 1) ∧ (WZ z (isW w_places (absR M)))) := by
  obtain ⟨hI, hW⟩ := hJ
  refine en_z (by decide +kernel) (fun ad => by exact Nat.le_of_ble_eq_true rfl) (fun D cy ad A p e s m args below meth c Q F hret => ?_)
  refine z_eq (ls' := [(0, .ref (ad 131)), (1, .ref (ad 1057))]) rfl rfl rfl ?_
  obtain ⟨u1, eu1⟩ : ∃ v : Int, v = M 131 7 := ⟨_, rfl⟩
  have ku1 : 0 ≤ u1 ∧ u1 ≤ 900 := by have := hI.at (show Bd 131 7 = (0, 900) from rfl); omega
  obtain ⟨u2, eu2⟩ : ∃ v : Int, v = M 131 8 := ⟨_, rfl⟩
  have ku2 : 0 ≤ u2 ∧ u2 ≤ 900 := by have := hI.at (show Bd 131 8 = (0, 900) from rfl); omega
  obtain ⟨u3, eu3⟩ : ∃ v : Int, v = M 131 9 := ⟨_, rfl⟩
  have ku3 : 0 ≤ u3 ∧ u3 ≤ 900 := by have := hI.at (show Bd 131 9 = (0, 900) from rfl); omega
  obtain ⟨u4, eu4⟩ : ∃ v : Int, v = M 131 10 := ⟨_, rfl⟩
  have ku4 : (-2147483648) ≤ u4 ∧ u4 ≤ 2147483647 := by have := hI.at (show Bd 131 10 = (-2147483648, 2147483647) from rfl); omega
  obtain ⟨u5, eu5⟩ : ∃ v : Int, v = M 131 12 := ⟨_, rfl⟩
  have ku5 : 0 ≤ u5 ∧ u5 ≤ 4 := by have := hI.at (show Bd 131 12 = (0, 4) from rfl); omega
  obtain ⟨u6, eu6⟩ : ∃ v : Int, v = M 131 16 := ⟨_, rfl⟩
  have ku6 : (-2147483648) ≤ u6 ∧ u6 ≤ 2147483647 := by have := hI.at (show Bd 131 16 = (-2147483648, 2147483647) from rfl); omega
  refine z_aload_n F dX12_isWord_0 rfl (q := 0) rfl ?_
  refine gf_X12_108 F hI gs_131 rfl bd_131_12 dX12_isWord_1 (fun v7 ev7 av7 bv7 => ?_)
  have zv7 : u5 = v7 := eu5.trans ev7.symm
  subst zv7
  refine z_if_ne (tgt := 35) F dX12_isWord_4 (by decide +kernel) (by omega) (fun c8 => ?_) (fun c8 => ?_)
  · refine z_iconst F dX12_isWord_35 ?_
    refine z_istore_n F dX12_isWord_36 rfl (by decide) (ls' := [(2, ii 0), (0, .ref (ad 131)), (1, .ref (ad 1057))]) rfl ?_
    refine z_iconst F dX12_isWord_37 ?_
    refine z_istore_n F dX12_isWord_38 rfl (by decide) (ls' := [(3, ii 0), (2, ii 0), (0, .ref (ad 131)), (1, .ref (ad 1057))]) rfl ?_
    refine z_loc [2, 3, 1, 0] (ls' := [(0, .ref (ad 131)), (1, .ref (ad 1057)), (2, ii 0), (3, ii 0)]) rfl ?_
    suffices key39 : ∀ (n : Nat) (y10 : Int) (y11 : Int), 0 ≤ y10 → y10 ≤ 0 → 0 ≤ y11 → y11 ≤ 0 → (y10 = 1 → M 131 12 = 0 ∧ M 131 10 = 1 ∧ M 131 8 - M 131 9 = 6) → (Iw_R M w_places y10 y11) → 0 < (n : Int) → Z D cy ad p l e (RMh 5) s m args below meth c A 4 0 0 Q 39 [(0, .ref (ad 131)), (1, .ref (ad 1057)), (2, ii y10), (3, ii y11)] [] M from key39 1 0 0 (by omega) (by omega) (by omega) (by omega) (by omega) (iwR_n (by rw [wl_places]; unfold tkR; omega)) (by omega)
    intro n39
    induction n39 with
    | zero => intro y10 y11 ay10 by10 ay11 by11 i39_0 i39_1 hn39; exfalso; omega
    | succ n39 ih39 =>
      intro y10 y11 ay10 by10 ay11 by11 i39_0 i39_1 hn39
      refine z_iload_n F dX12_isWord_39 rfl (q := 2) rfl ?_
      refine z_if_eq (tgt := 82) F dX12_isWord_40 (by decide +kernel) (by omega) (fun c12 => ?_) (fun c12 => by exfalso; omega)
      refine z_iload_n F dX12_isWord_82 rfl (q := 2) rfl ?_
      exact hret _ _ 83 _ ⟨by omega, by omega⟩ ⟨hI, hW⟩ ⟨⟨by omega, by omega⟩, rfl, (by omega), (iwR_e i39_1 (by rw [wl_places]; unfold tkR; omega) (by omega) (by omega))⟩ dX12_isWord_83
  · refine z_aload_n F dX12_isWord_7 rfl (q := 0) rfl ?_
    refine gf_X12_88 F hI gs_131 rfl bd_131_10 dX12_isWord_8 (fun v13 ev13 av13 bv13 => ?_)
    have zv13 : u4 = v13 := eu4.trans ev13.symm
    subst zv13
    refine z_iconst F dX12_isWord_11 ?_
    refine z_icmp_ne (tgt := 35) F dX12_isWord_12 (by decide +kernel) (by omega) (by omega) (fun c14 => ?_) (fun c14 => ?_)
    · refine z_iconst F dX12_isWord_35 ?_
      refine z_istore_n F dX12_isWord_36 rfl (by decide) (ls' := [(2, ii 0), (0, .ref (ad 131)), (1, .ref (ad 1057))]) rfl ?_
      refine z_iconst F dX12_isWord_37 ?_
      refine z_istore_n F dX12_isWord_38 rfl (by decide) (ls' := [(3, ii 0), (2, ii 0), (0, .ref (ad 131)), (1, .ref (ad 1057))]) rfl ?_
      refine z_loc [2, 3, 1, 0] (ls' := [(0, .ref (ad 131)), (1, .ref (ad 1057)), (2, ii 0), (3, ii 0)]) rfl ?_
      suffices key39 : ∀ (n : Nat) (y16 : Int) (y17 : Int), 0 ≤ y16 → y16 ≤ 0 → 0 ≤ y17 → y17 ≤ 0 → (y16 = 1 → M 131 12 = 0 ∧ M 131 10 = 1 ∧ M 131 8 - M 131 9 = 6) → (Iw_R M w_places y16 y17) → 0 < (n : Int) → Z D cy ad p l e (RMh 5) s m args below meth c A 4 0 0 Q 39 [(0, .ref (ad 131)), (1, .ref (ad 1057)), (2, ii y16), (3, ii y17)] [] M from key39 1 0 0 (by omega) (by omega) (by omega) (by omega) (by omega) (iwR_n (by rw [wl_places]; unfold tkR; omega)) (by omega)
      intro n39
      induction n39 with
      | zero => intro y16 y17 ay16 by16 ay17 by17 i39_0 i39_1 hn39; exfalso; omega
      | succ n39 ih39 =>
        intro y16 y17 ay16 by16 ay17 by17 i39_0 i39_1 hn39
        refine z_iload_n F dX12_isWord_39 rfl (q := 2) rfl ?_
        refine z_if_eq (tgt := 82) F dX12_isWord_40 (by decide +kernel) (by omega) (fun c18 => ?_) (fun c18 => by exfalso; omega)
        refine z_iload_n F dX12_isWord_82 rfl (q := 2) rfl ?_
        exact hret _ _ 83 _ ⟨by omega, by omega⟩ ⟨hI, hW⟩ ⟨⟨by omega, by omega⟩, rfl, (by omega), (iwR_e i39_1 (by rw [wl_places]; unfold tkR; omega) (by omega) (by omega))⟩ dX12_isWord_83
    · refine z_aload_n F dX12_isWord_15 rfl (q := 0) rfl ?_
      refine gf_X12_82 F hI gs_131 rfl bd_131_8 dX12_isWord_16 (fun v19 ev19 av19 bv19 => ?_)
      have zv19 : u2 = v19 := eu2.trans ev19.symm
      subst zv19
      refine z_aload_n F dX12_isWord_19 rfl (q := 0) rfl ?_
      refine gf_X12_85 F hI gs_131 rfl bd_131_9 dX12_isWord_20 (fun v20 ev20 av20 bv20 => ?_)
      have zv20 : u3 = v20 := eu3.trans ev20.symm
      subst zv20
      refine z_isub F dX12_isWord_23 ?_
      refine z_aload_n F dX12_isWord_24 rfl (q := 1) rfl ?_
      refine zvs_i (i := 57) (rest := [ii (u2 - u3)]) F (kS_len l M ⟨hI, hW⟩ 57 (by decide)) cs_X12_114 (by decide) (by decide) (by decide) rfl rfl rfl (Nat.le_of_ble_eq_true rfl) dX12_isWord_25 (fun v21 M9 rv21 hI9 pv21 => ?_)
      obtain ⟨ev21, rfl⟩ := pv21
      obtain rfl : v21 = 6 := ev21.trans (show ((sbyt.getD 57 []).length : Int) = 6 from by decide)
      clear hI9
      refine z_icmp_ne (tgt := 35) F dX12_isWord_28 (by decide +kernel) (by omega) (by omega) (fun c22 => ?_) (fun c22 => ?_)
      · refine z_iconst F dX12_isWord_35 ?_
        refine z_istore_n F dX12_isWord_36 rfl (by decide) (ls' := [(2, ii 0), (0, .ref (ad 131)), (1, .ref (ad 1057))]) rfl ?_
        refine z_iconst F dX12_isWord_37 ?_
        refine z_istore_n F dX12_isWord_38 rfl (by decide) (ls' := [(3, ii 0), (2, ii 0), (0, .ref (ad 131)), (1, .ref (ad 1057))]) rfl ?_
        refine z_loc [2, 3, 1, 0] (ls' := [(0, .ref (ad 131)), (1, .ref (ad 1057)), (2, ii 0), (3, ii 0)]) rfl ?_
        suffices key39 : ∀ (n : Nat) (y24 : Int) (y25 : Int), 0 ≤ y24 → y24 ≤ 0 → 0 ≤ y25 → y25 ≤ 0 → (y24 = 1 → M 131 12 = 0 ∧ M 131 10 = 1 ∧ M 131 8 - M 131 9 = 6) → (Iw_R M w_places y24 y25) → 0 < (n : Int) → Z D cy ad p l e (RMh 5) s m args below meth c A 4 0 0 Q 39 [(0, .ref (ad 131)), (1, .ref (ad 1057)), (2, ii y24), (3, ii y25)] [] M from key39 1 0 0 (by omega) (by omega) (by omega) (by omega) (by omega) (iwR_n (by rw [wl_places]; unfold tkR; omega)) (by omega)
        intro n39
        induction n39 with
        | zero => intro y24 y25 ay24 by24 ay25 by25 i39_0 i39_1 hn39; exfalso; omega
        | succ n39 ih39 =>
          intro y24 y25 ay24 by24 ay25 by25 i39_0 i39_1 hn39
          refine z_iload_n F dX12_isWord_39 rfl (q := 2) rfl ?_
          refine z_if_eq (tgt := 82) F dX12_isWord_40 (by decide +kernel) (by omega) (fun c26 => ?_) (fun c26 => by exfalso; omega)
          refine z_iload_n F dX12_isWord_82 rfl (q := 2) rfl ?_
          exact hret _ _ 83 _ ⟨by omega, by omega⟩ ⟨hI, hW⟩ ⟨⟨by omega, by omega⟩, rfl, (by omega), (iwR_e i39_1 (by rw [wl_places]; unfold tkR; omega) (by omega) (by omega))⟩ dX12_isWord_83
      · refine z_iconst F dX12_isWord_31 ?_
        refine z_goto (tgt := 36) F dX12_isWord_32 (by decide +kernel) ?_
        refine z_istore_n F dX12_isWord_36 rfl (by decide) (ls' := [(2, ii 1), (0, .ref (ad 131)), (1, .ref (ad 1057))]) rfl ?_
        refine z_iconst F dX12_isWord_37 ?_
        refine z_istore_n F dX12_isWord_38 rfl (by decide) (ls' := [(3, ii 0), (2, ii 1), (0, .ref (ad 131)), (1, .ref (ad 1057))]) rfl ?_
        refine z_loc [2, 3, 1, 0] (ls' := [(0, .ref (ad 131)), (1, .ref (ad 1057)), (2, ii 1), (3, ii 0)]) rfl ?_
        suffices key39 : ∀ (n : Nat) (y28 : Int) (y29 : Int), 0 ≤ y28 → y28 ≤ 1 → 0 ≤ y29 → y29 ≤ 6 → (y28 = 1 → M 131 12 = 0 ∧ M 131 10 = 1 ∧ M 131 8 - M 131 9 = 6) → (Iw_R M w_places y28 y29) → 6 - y29 < (n : Int) → Z D cy ad p l e (RMh 5) s m args below meth c A 4 0 0 Q 39 [(0, .ref (ad 131)), (1, .ref (ad 1057)), (2, ii y28), (3, ii y29)] [] M from key39 7 1 0 (by omega) (by omega) (by omega) (by omega) (by omega) iwR_0 (by omega)
        intro n39
        induction n39 with
        | zero => intro y28 y29 ay28 by28 ay29 by29 i39_0 i39_1 hn39; exfalso; omega
        | succ n39 ih39 =>
          intro y28 y29 ay28 by28 ay29 by29 i39_0 i39_1 hn39
          refine z_iload_n F dX12_isWord_39 rfl (q := 2) rfl ?_
          refine z_if_eq (tgt := 82) F dX12_isWord_40 (by decide +kernel) (by omega) (fun c30 => ?_) (fun c30 => ?_)
          · refine z_iload_n F dX12_isWord_82 rfl (q := 2) rfl ?_
            exact hret _ _ 83 _ ⟨by omega, by omega⟩ ⟨hI, hW⟩ ⟨⟨by omega, by omega⟩, rfl, (by omega), (iwR_e i39_1 (by rw [wl_places]; unfold tkR; omega) (by omega) (by omega))⟩ dX12_isWord_83
          · refine z_iload_n F dX12_isWord_43 rfl (q := 3) rfl ?_
            refine z_aload_n F dX12_isWord_44 rfl (q := 1) rfl ?_
            refine zvs_i (i := 57) (rest := [ii y29]) F (kS_len l M ⟨hI, hW⟩ 57 (by decide)) cs_X12_114 (by decide) (by decide) (by decide) rfl rfl rfl (Nat.le_of_ble_eq_true rfl) dX12_isWord_45 (fun v31 M9 rv31 hI9 pv31 => ?_)
            obtain ⟨ev31, rfl⟩ := pv31
            obtain rfl : v31 = 6 := ev31.trans (show ((sbyt.getD 57 []).length : Int) = 6 from by decide)
            clear hI9
            refine z_icmp_ge (tgt := 82) F dX12_isWord_48 (by decide +kernel) (by omega) (by omega) (fun c32 => ?_) (fun c32 => ?_)
            · refine z_iload_n F dX12_isWord_82 rfl (q := 2) rfl ?_
              exact hret _ _ 83 _ ⟨by omega, by omega⟩ ⟨hI, hW⟩ ⟨⟨by omega, by omega⟩, rfl, (by omega), (iwR_e i39_1 (by rw [wl_places]; unfold tkR; omega) (by omega) (by omega))⟩ dX12_isWord_83
            · refine z_aload_n F dX12_isWord_51 rfl (q := 0) rfl ?_
              refine rf_X12_23 F gs_131 rfl dX12_isWord_52 ?_
              refine z_aload_n F dX12_isWord_55 rfl (q := 0) rfl ?_
              refine gf_X12_85 F hI gs_131 rfl bd_131_9 dX12_isWord_56 (fun v33 ev33 av33 bv33 => ?_)
              have zv33 : u3 = v33 := eu3.trans ev33.symm
              subst zv33
              refine z_iload_n F dX12_isWord_59 rfl (q := 3) rfl ?_
              refine z_iadd F dX12_isWord_60 ?_
              have k34 : 0 ≤ (u3 + y29) ∧ (u3 + y29) ≤ 899 := by omega
              refine z_iald F hI gs_136 (by omega) (by omega) (by decide) bd_136 dX12_isWord_61 (fun v35 (ev35 : v35 = M 136 _) av35 bv35 => ?_)
              refine z_aload_n F dX12_isWord_62 rfl (q := 1) rfl ?_
              refine z_iload_n F dX12_isWord_63 rfl (q := 3) rfl ?_
              refine zvs_i (i := 57) (rest := [ii v35]) F (kS_chr l M ⟨hI, hW⟩ 57 (by decide) y29 (by omega) (show y29 < ((sbyt.getD 57 []).length : Int) from by rw [show ((sbyt.getD 57 []).length : Int) = 6 from by decide]; omega)) cs_X12_119 (by decide) (by decide) (by decide) rfl rfl rfl (Nat.le_of_ble_eq_true rfl) dX12_isWord_64 (fun v36 M9 rv36 hI9 pv36 => ?_)
              obtain ⟨⟨av36, bv36, ev36⟩, rfl⟩ := pv36
              clear hI9
              refine z_icmp_ne (tgt := 74) F dX12_isWord_67 (by decide +kernel) (by omega) (by omega) (fun c37 => ?_) (fun c37 => ?_)
              · refine z_iconst F dX12_isWord_74 ?_
                refine z_istore_n F dX12_isWord_75 rfl (by decide) (ls' := [(2, ii 0), (0, .ref (ad 131)), (1, .ref (ad 1057)), (3, ii y29)]) rfl ?_
                refine z_iincN F dX12_isWord_76 (q := 3) rfl (by decide) (fun v38 ev38 => ?_)
                refine z_eq (ls' := [(3, ii v38), (2, ii 0), (0, .ref (ad 131)), (1, .ref (ad 1057))]) rfl rfl rfl ?_
                refine z_goto (tgt := 39) F dX12_isWord_79 (by decide +kernel) ?_
                refine z_loc [2, 3, 1, 0] (ls' := [(0, .ref (ad 131)), (1, .ref (ad 1057)), (2, ii 0), (3, ii v38)]) rfl ?_
                exact ih39 0 v38 (by omega) (by omega) (by omega) (by omega) (by omega) (by rw [show v38 = y29 + 1 from by omega]; exact iwR_s i39_1 (by omega) (by omega) (by rw [wl_places]; omega) (by rw [wl_places]; omega) (show v35 = bR M ((M 131 9).toNat + (y29).toNat) from by show v35 = M 136 _; rw [show (M 131 9).toNat + (y29).toNat = ((u3 + y29)).toNat from by omega]; exact ev35) (ev36.trans (sw_57 (y29).toNat (by omega)).1) (by omega)) (by omega)
              · refine z_iconst F dX12_isWord_70 ?_
                refine z_goto (tgt := 75) F dX12_isWord_71 (by decide +kernel) ?_
                refine z_istore_n F dX12_isWord_75 rfl (by decide) (ls' := [(2, ii 1), (0, .ref (ad 131)), (1, .ref (ad 1057)), (3, ii y29)]) rfl ?_
                refine z_iincN F dX12_isWord_76 (q := 3) rfl (by decide) (fun v39 ev39 => ?_)
                refine z_eq (ls' := [(3, ii v39), (2, ii 1), (0, .ref (ad 131)), (1, .ref (ad 1057))]) rfl rfl rfl ?_
                refine z_goto (tgt := 39) F dX12_isWord_79 (by decide +kernel) ?_
                refine z_loc [2, 3, 1, 0] (ls' := [(0, .ref (ad 131)), (1, .ref (ad 1057)), (2, ii 1), (3, ii v39)]) rfl ?_
                exact ih39 1 v39 (by omega) (by omega) (by omega) (by omega) (by omega) (by rw [show v39 = y29 + 1 from by omega]; exact iwR_s i39_1 (by omega) (by omega) (by rw [wl_places]; omega) (by rw [wl_places]; omega) (show v35 = bR M ((M 131 9).toNat + (y29).toNat) from by show v35 = M 136 _; rw [show (M 131 9).toNat + (y29).toNat = ((u3 + y29)).toNat from by omega]; exact ev35) (ev36.trans (sw_57 (y29).toNat (by omega)).1) (by omega)) (by omega)
set_option maxHeartbeats 4000000 in
set_option maxRecDepth 4000 in
theorem kp_X12_took_131_1057 (l : Launch) (M : Mem) (hJ : Iw M) (hp0 : 0 ≤ M 131 9 ∧ M 131 9 ≤ M 131 8 ∧ M 131 8 ≤ M 131 7 ∧ M 131 7 ≤ 900 ∧ (M 131 10 = 0 ∨ M 131 9 < M 131 8)) : CI l yX12_took cX12_took 3 (some .boolean) 6 (fun ad => [.ref (ad 131), .ref (ad 1057)]) M (fun z M' => (0 ≤ z ∧ z ≤ 1) ∧ Fr [131] M M' ∧ (M' 131 7 = M 131 7 ∧ M' 131 16 = M 131 16 ∧ M 131 9 ≤ M' 131 9 ∧ 0 ≤ M' 131 9 ∧ M' 131 9 ≤ M' 131 8 ∧ M' 131 8 ≤ M' 131 7 ∧ M' 131 7 ≤ 900 ∧ (M' 131 10 = 0 ∨ M' 131 9 < M' 131 8) ∧ M' 131 12 = M 131 12 ∧ (z = 1 → M 131 12 = 0 ∧ M 131 9 < M' 131 9)) ∧ (WZ z (isW w_places (absR M)) ∧ tookW w_places (absR M) = absR M')) := by
  obtain ⟨hI, hW⟩ := hJ
  have hF : Fr [131] M M := Fr.rf
  refine en_z (by decide +kernel) (fun ad => by exact Nat.le_of_ble_eq_true rfl) (fun D cy ad A p e s m args below meth c Q F hret => ?_)
  refine z_eq (ls' := [(0, .ref (ad 131)), (1, .ref (ad 1057))]) rfl rfl rfl ?_
  refine z_aload_n F dX12_took_0 rfl (q := 0) rfl ?_
  refine z_aload_n F dX12_took_1 rfl (q := 1) rfl ?_
  refine zv_i (rest := []) F (kp_X12_isWord_131_1057 l M ⟨hI, hW⟩ (by omega)) cs_X12_123 (T := TX12) (N := 44) (ci := 12) rfl gs_131 (by decide) (by decide) rfl rfl rfl (Nat.le_of_ble_eq_true rfl) dX12_took_2 (fun v1 M2 rv1 hI p3 => ?_)
  obtain ⟨hI, hW⟩ := hI
  obtain ⟨⟨av1, bv1⟩, rfl, xp3, yp3⟩ := p3
  refine z_istore_n F dX12_took_5 rfl (by decide) (ls' := [(2, ii v1), (0, .ref (ad 131)), (1, .ref (ad 1057))]) rfl ?_
  refine z_iload_n F dX12_took_6 rfl (q := 0) rfl ?_
  refine z_if_eq (tgt := 14) F dX12_took_7 (by decide +kernel) (by omega) (fun c4 => ?_) (fun c4 => ?_)
  · refine z_iload_n F dX12_took_14 rfl (q := 0) rfl ?_
    exact hret _ _ 15 _ ⟨by omega, by omega⟩ ⟨hI, hW⟩ ⟨⟨by omega, by omega⟩, hF, (by omega), ⟨yp3, took_f (wz_f yp3 (by omega))⟩⟩ dX12_took_15
  · refine z_aload_n F dX12_took_10 rfl (q := 1) rfl ?_
    refine zv_v (rest := []) F (kp_X12_readsOn l M ⟨hI, hW⟩ (by omega)) cs_X12_127 (T := TX12) (N := 44) (ci := 12) rfl gs_131 (by decide) (by decide) rfl rfl rfl (Nat.le_of_ble_eq_true rfl) dX12_took_11 (fun M5 hI p6 => ?_)
    obtain ⟨hI, hW⟩ := hI
    obtain ⟨fp6, xp6, yp6⟩ := p6
    have hF := hF.call fp6 (by decide)
    have tM5_133_6 : M5 133 6 = M 133 6 := fp6.at (by decide)
    have tM5_133_1 : M5 133 1 = M 133 1 := fp6.at (by decide)
    refine z_iload_n F dX12_took_14 rfl (q := 0) rfl ?_
    exact hret _ _ 15 _ ⟨by omega, by omega⟩ ⟨hI, hW⟩ ⟨⟨by omega, by omega⟩, hF, (by omega), ⟨yp3, took_t (wz_t yp3 (by omega)) (yp6 (by omega))⟩⟩ dX12_took_15
set_option maxHeartbeats 4000000 in
set_option maxRecDepth 4000 in
theorem kp_X12_mustWord_131_1057 (l : Launch) (M : Mem) (hJ : Iw M) (hp0 : 0 ≤ M 131 9 ∧ M 131 9 ≤ M 131 8 ∧ M 131 8 ≤ M 131 7 ∧ M 131 7 ≤ 900 ∧ (M 131 10 = 0 ∨ M 131 9 < M 131 8)) : CV l yX12_mustWord cX12_mustWord 2 none 7 (fun ad => [.ref (ad 131), .ref (ad 1057)]) M (fun M' => Fr [131] M M' ∧ (M' 131 7 = M 131 7 ∧ M' 131 16 = M 131 16 ∧ M 131 9 ≤ M' 131 9 ∧ 0 ≤ M' 131 9 ∧ M' 131 9 ≤ M' 131 8 ∧ M' 131 8 ≤ M' 131 7 ∧ M' 131 7 ≤ 900 ∧ (M' 131 10 = 0 ∨ M' 131 9 < M' 131 8) ∧ (M' 131 12 = 0 → M 131 12 = 0)) ∧ (mustW w_places (absR M) = absR M')) := by
  obtain ⟨hI, hW⟩ := hJ
  have hF : Fr [131] M M := Fr.rf
  refine en_v (by decide +kernel) (fun ad => by exact Nat.le_of_ble_eq_true rfl) (fun D cy ad A p e s m args below meth c Q F hret => ?_)
  refine z_eq (ls' := [(0, .ref (ad 131)), (1, .ref (ad 1057))]) rfl rfl rfl ?_
  refine z_aload_n F dX12_mustWord_0 rfl (q := 0) rfl ?_
  refine z_aload_n F dX12_mustWord_1 rfl (q := 1) rfl ?_
  refine zv_i (rest := []) F (kp_X12_took_131_1057 l M ⟨hI, hW⟩ (by omega)) cs_X12_130 (T := TX12) (N := 44) (ci := 12) rfl gs_131 (by decide) (by decide) rfl rfl rfl (Nat.le_of_ble_eq_true rfl) dX12_mustWord_2 (fun v1 M2 rv1 hI p3 => ?_)
  obtain ⟨hI, hW⟩ := hI
  obtain ⟨⟨av1, bv1⟩, fp3, xp3, yp3⟩ := p3
  have hF := hF.call fp3 (by decide)
  have tM2_133_6 : M2 133 6 = M 133 6 := fp3.at (by decide)
  have tM2_133_1 : M2 133 1 = M 133 1 := fp3.at (by decide)
  refine z_if_ne (tgt := 13) F dX12_mustWord_5 (by decide +kernel) (by omega) (fun c4 => ?_) (fun c4 => ?_)
  · exact hret _ 13 _ ⟨hI, hW⟩ ⟨hF, (by omega), (must_t (wz_t yp3.1 (by omega)) (took_a (wz_t yp3.1 (by omega)) yp3.2))⟩ dX12_mustWord_13
  · refine z_aload_n F dX12_mustWord_8 rfl (q := 0) rfl ?_
    refine z_iconst F dX12_mustWord_9 ?_
    refine zv_v (rest := []) F (kp_X12_blames l M2 ⟨hI, hW⟩ 2 (by omega) (by omega)) cs_X12_133 (T := TX12) (N := 44) (ci := 12) rfl gs_131 (by decide) (by decide) rfl rfl rfl (Nat.le_of_ble_eq_true rfl) dX12_mustWord_10 (fun M5 hI p6 => ?_)
    obtain ⟨hI, hW⟩ := hI
    obtain ⟨fp6, xp6, yp6⟩ := p6
    have hF := hF.call fp6 (by decide)
    have tM5_133_6 : M5 133 6 = M2 133 6 := fp6.at (by decide)
    have tM5_133_1 : M5 133 1 = M2 133 1 := fp6.at (by decide)
    exact hret _ 13 _ ⟨hI, hW⟩ ⟨hF, (by omega), (must_f (wz_f yp3.1 (by omega)) ((congrArg (blame 2) (took_e (wz_f yp3.1 (by omega)) yp3.2).symm).trans yp6))⟩ dX12_mustWord_13
