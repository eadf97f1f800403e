theorem dX12_readSum_0 : decode cX12_readSum 0 = .ok (.aload_n 0, 1) := by decide +kernel
theorem dX12_readSum_1 : decode cX12_readSum 1 = .ok (.invokevirtual 174, 3) := by decide +kernel
theorem dX12_readSum_10 : decode cX12_readSum 10 = .ok (.ifCond .ne 12, 3) := by decide +kernel
theorem dX12_readSum_13 : decode cX12_readSum 13 = .ok (.aload_n 0, 1) := by decide +kernel
theorem dX12_readSum_14 : decode cX12_readSum 14 = .ok (.bipush 45, 2) := by decide +kernel
theorem dX12_readSum_16 : decode cX12_readSum 16 = .ok (.invokevirtual 162, 3) := by decide +kernel
theorem dX12_readSum_19 : decode cX12_readSum 19 = .ok (.ifCond .eq 36, 3) := by decide +kernel
theorem dX12_readSum_22 : decode cX12_readSum 22 = .ok (.aload_n 0, 1) := by decide +kernel
theorem dX12_readSum_23 : decode cX12_readSum 23 = .ok (.getfield 88, 3) := by decide +kernel
theorem dX12_readSum_26 : decode cX12_readSum 26 = .ok (.istore_n 1, 1) := by decide +kernel
theorem dX12_readSum_27 : decode cX12_readSum 27 = .ok (.aload_n 0, 1) := by decide +kernel
theorem dX12_readSum_28 : decode cX12_readSum 28 = .ok (.invokevirtual 127, 3) := by decide +kernel
theorem dX12_readSum_31 : decode cX12_readSum 31 = .ok (.aload_n 0, 1) := by decide +kernel
theorem dX12_readSum_32 : decode cX12_readSum 32 = .ok (.invokevirtual 174, 3) := by decide +kernel
theorem dX12_readSum_35 : decode cX12_readSum 35 = .ok (.aload_n 0, 1) := by decide +kernel
theorem dX12_readSum_36 : decode cX12_readSum 36 = .ok (.iload_n 1, 1) := by decide +kernel
theorem dX12_readSum_37 : decode cX12_readSum 37 = .ok (.bipush 43, 2) := by decide +kernel
theorem dX12_readSum_39 : decode cX12_readSum 39 = .ok (.if_icmp .ne 8, 3) := by decide +kernel
theorem dX12_readSum_4 : decode cX12_readSum 4 = .ok (.aload_n 0, 1) := by decide +kernel
theorem dX12_readSum_42 : decode cX12_readSum 42 = .ok (.bipush 10, 2) := by decide +kernel
theorem dX12_readSum_44 : decode cX12_readSum 44 = .ok (.goto 5, 3) := by decide +kernel
theorem dX12_readSum_47 : decode cX12_readSum 47 = .ok (.bipush 11, 2) := by decide +kernel
theorem dX12_readSum_49 : decode cX12_readSum 49 = .ok (.invokevirtual 149, 3) := by decide +kernel
theorem dX12_readSum_5 : decode cX12_readSum 5 = .ok (.bipush 43, 2) := by decide +kernel
theorem dX12_readSum_52 : decode cX12_readSum 52 = .ok (.goto (-48), 3) := by decide +kernel
theorem dX12_readSum_55 : decode cX12_readSum 55 = .ok (.return_, 1) := by decide +kernel
theorem dX12_readSum_7 : decode cX12_readSum 7 = .ok (.invokevirtual 162, 3) := by decide +kernel
theorem dX12_readUnit_0 : decode cX12_readUnit 0 = .ok (.aload_n 0, 1) := by decide +kernel
theorem dX12_readUnit_1 : decode cX12_readUnit 1 = .ok (.getfield 108, 3) := by decide +kernel
theorem dX12_readUnit_101 : decode cX12_readUnit 101 = .ok (.iload_n 1, 1) := by decide +kernel
theorem dX12_readUnit_102 : decode cX12_readUnit 102 = .ok (.bipush 62, 2) := by decide +kernel
theorem dX12_readUnit_104 : decode cX12_readUnit 104 = .ok (.if_icmp .eq 8, 3) := by decide +kernel
theorem dX12_readUnit_107 : decode cX12_readUnit 107 = .ok (.aload_n 0, 1) := by decide +kernel
theorem dX12_readUnit_108 : decode cX12_readUnit 108 = .ok (.iconst 2, 1) := by decide +kernel
theorem dX12_readUnit_109 : decode cX12_readUnit 109 = .ok (.invokevirtual 133, 3) := by decide +kernel
theorem dX12_readUnit_11 : decode cX12_readUnit 11 = .ok (.invokevirtual 123, 3) := by decide +kernel
theorem dX12_readUnit_112 : decode cX12_readUnit 112 = .ok (.aload_n 0, 1) := by decide +kernel
theorem dX12_readUnit_113 : decode cX12_readUnit 113 = .ok (.getfield 108, 3) := by decide +kernel
theorem dX12_readUnit_116 : decode cX12_readUnit 116 = .ok (.ifCond .ne 7, 3) := by decide +kernel
theorem dX12_readUnit_119 : decode cX12_readUnit 119 = .ok (.aload_n 0, 1) := by decide +kernel
theorem dX12_readUnit_120 : decode cX12_readUnit 120 = .ok (.invokevirtual 127, 3) := by decide +kernel
theorem dX12_readUnit_123 : decode cX12_readUnit 123 = .ok (.aload_n 0, 1) := by decide +kernel
theorem dX12_readUnit_124 : decode cX12_readUnit 124 = .ok (.invokevirtual 171, 3) := by decide +kernel
theorem dX12_readUnit_127 : decode cX12_readUnit 127 = .ok (.aload_n 0, 1) := by decide +kernel
theorem dX12_readUnit_128 : decode cX12_readUnit 128 = .ok (.iload_n 1, 1) := by decide +kernel
theorem dX12_readUnit_129 : decode cX12_readUnit 129 = .ok (.bipush 61, 2) := by decide +kernel
theorem dX12_readUnit_131 : decode cX12_readUnit 131 = .ok (.if_icmp .ne 8, 3) := by decide +kernel
theorem dX12_readUnit_134 : decode cX12_readUnit 134 = .ok (.bipush 13, 2) := by decide +kernel
theorem dX12_readUnit_136 : decode cX12_readUnit 136 = .ok (.goto 16, 3) := by decide +kernel
theorem dX12_readUnit_139 : decode cX12_readUnit 139 = .ok (.iload_n 1, 1) := by decide +kernel
theorem dX12_readUnit_14 : decode cX12_readUnit 14 = .ok (.ifCond .eq 30, 3) := by decide +kernel
theorem dX12_readUnit_140 : decode cX12_readUnit 140 = .ok (.bipush 60, 2) := by decide +kernel
theorem dX12_readUnit_142 : decode cX12_readUnit 142 = .ok (.if_icmp .ne 8, 3) := by decide +kernel
theorem dX12_readUnit_145 : decode cX12_readUnit 145 = .ok (.bipush 14, 2) := by decide +kernel
theorem dX12_readUnit_147 : decode cX12_readUnit 147 = .ok (.goto 5, 3) := by decide +kernel
theorem dX12_readUnit_150 : decode cX12_readUnit 150 = .ok (.bipush 15, 2) := by decide +kernel
theorem dX12_readUnit_152 : decode cX12_readUnit 152 = .ok (.invokevirtual 149, 3) := by decide +kernel
theorem dX12_readUnit_155 : decode cX12_readUnit 155 = .ok (.return_, 1) := by decide +kernel
theorem dX12_readUnit_17 : decode cX12_readUnit 17 = .ok (.aload_n 0, 1) := by decide +kernel
theorem dX12_readUnit_18 : decode cX12_readUnit 18 = .ok (.invokevirtual 159, 3) := by decide +kernel
theorem dX12_readUnit_21 : decode cX12_readUnit 21 = .ok (.aload_n 0, 1) := by decide +kernel
theorem dX12_readUnit_22 : decode cX12_readUnit 22 = .ok (.invokevirtual 152, 3) := by decide +kernel
theorem dX12_readUnit_25 : decode cX12_readUnit 25 = .ok (.aload_n 0, 1) := by decide +kernel
theorem dX12_readUnit_26 : decode cX12_readUnit 26 = .ok (.bipush 18, 2) := by decide +kernel
theorem dX12_readUnit_28 : decode cX12_readUnit 28 = .ok (.invokevirtual 149, 3) := by decide +kernel
theorem dX12_readUnit_31 : decode cX12_readUnit 31 = .ok (.aload_n 0, 1) := by decide +kernel
theorem dX12_readUnit_32 : decode cX12_readUnit 32 = .ok (.dup, 1) := by decide +kernel
theorem dX12_readUnit_33 : decode cX12_readUnit 33 = .ok (.getfield 141, 3) := by decide +kernel
theorem dX12_readUnit_36 : decode cX12_readUnit 36 = .ok (.iconst 1, 1) := by decide +kernel
theorem dX12_readUnit_37 : decode cX12_readUnit 37 = .ok (.isub, 1) := by decide +kernel
theorem dX12_readUnit_38 : decode cX12_readUnit 38 = .ok (.putfield 141, 3) := by decide +kernel
theorem dX12_readUnit_4 : decode cX12_readUnit 4 = .ok (.ifCond .eq 4, 3) := by decide +kernel
theorem dX12_readUnit_41 : decode cX12_readUnit 41 = .ok (.goto 114, 3) := by decide +kernel
theorem dX12_readUnit_44 : decode cX12_readUnit 44 = .ok (.aload_n 0, 1) := by decide +kernel
theorem dX12_readUnit_45 : decode cX12_readUnit 45 = .ok (.bipush 91, 2) := by decide +kernel
theorem dX12_readUnit_47 : decode cX12_readUnit 47 = .ok (.invokevirtual 162, 3) := by decide +kernel
theorem dX12_readUnit_50 : decode cX12_readUnit 50 = .ok (.ifCond .eq 30, 3) := by decide +kernel
theorem dX12_readUnit_53 : decode cX12_readUnit 53 = .ok (.aload_n 0, 1) := by decide +kernel
theorem dX12_readUnit_54 : decode cX12_readUnit 54 = .ok (.invokevirtual 159, 3) := by decide +kernel
theorem dX12_readUnit_57 : decode cX12_readUnit 57 = .ok (.aload_n 0, 1) := by decide +kernel
theorem dX12_readUnit_58 : decode cX12_readUnit 58 = .ok (.invokevirtual 165, 3) := by decide +kernel
theorem dX12_readUnit_61 : decode cX12_readUnit 61 = .ok (.aload_n 0, 1) := by decide +kernel
theorem dX12_readUnit_62 : decode cX12_readUnit 62 = .ok (.bipush 93, 2) := by decide +kernel
theorem dX12_readUnit_64 : decode cX12_readUnit 64 = .ok (.invokevirtual 168, 3) := by decide +kernel
theorem dX12_readUnit_67 : decode cX12_readUnit 67 = .ok (.aload_n 0, 1) := by decide +kernel
theorem dX12_readUnit_68 : decode cX12_readUnit 68 = .ok (.dup, 1) := by decide +kernel
theorem dX12_readUnit_69 : decode cX12_readUnit 69 = .ok (.getfield 141, 3) := by decide +kernel
theorem dX12_readUnit_7 : decode cX12_readUnit 7 = .ok (.return_, 1) := by decide +kernel
theorem dX12_readUnit_72 : decode cX12_readUnit 72 = .ok (.iconst 1, 1) := by decide +kernel
theorem dX12_readUnit_73 : decode cX12_readUnit 73 = .ok (.isub, 1) := by decide +kernel
theorem dX12_readUnit_74 : decode cX12_readUnit 74 = .ok (.putfield 141, 3) := by decide +kernel
theorem dX12_readUnit_77 : decode cX12_readUnit 77 = .ok (.goto 78, 3) := by decide +kernel
theorem dX12_readUnit_8 : decode cX12_readUnit 8 = .ok (.aload_n 0, 1) := by decide +kernel
theorem dX12_readUnit_80 : decode cX12_readUnit 80 = .ok (.aload_n 0, 1) := by decide +kernel
theorem dX12_readUnit_81 : decode cX12_readUnit 81 = .ok (.invokevirtual 171, 3) := by decide +kernel
theorem dX12_readUnit_84 : decode cX12_readUnit 84 = .ok (.aload_n 0, 1) := by decide +kernel
theorem dX12_readUnit_85 : decode cX12_readUnit 85 = .ok (.getfield 88, 3) := by decide +kernel
theorem dX12_readUnit_88 : decode cX12_readUnit 88 = .ok (.istore_n 1, 1) := by decide +kernel
theorem dX12_readUnit_89 : decode cX12_readUnit 89 = .ok (.iload_n 1, 1) := by decide +kernel
theorem dX12_readUnit_9 : decode cX12_readUnit 9 = .ok (.ldc 157, 2) := by decide +kernel
theorem dX12_readUnit_90 : decode cX12_readUnit 90 = .ok (.bipush 61, 2) := by decide +kernel
theorem dX12_readUnit_92 : decode cX12_readUnit 92 = .ok (.if_icmp .eq 20, 3) := by decide +kernel
theorem dX12_readUnit_95 : decode cX12_readUnit 95 = .ok (.iload_n 1, 1) := by decide +kernel
theorem dX12_readUnit_96 : decode cX12_readUnit 96 = .ok (.bipush 60, 2) := by decide +kernel
theorem dX12_readUnit_98 : decode cX12_readUnit 98 = .ok (.if_icmp .eq 14, 3) := by decide +kernel
set_option maxHeartbeats 4000000 in
set_option maxRecDepth 4000 in
theorem kp_X12_readUnit (l : Launch) (nr : Nat) (ih : RdR l nr) : ∀ (M : Mem) (hJ : Iw M) (hp0 : 0 ≤ M 131 9 ∧ M 131 9 ≤ M 131 8 ∧ M 131 8 ≤ M 131 7 ∧ M 131 7 ≤ 900 ∧ (M 131 10 = 0 ∨ M 131 9 < M 131 8)) (hp1 : 0 ≤ M 131 16 ∧ (M 131 16 ≤ 6 ∨ M 131 16 = 7 ∧ ¬ M 131 12 = 0)) (hp2 : M 133 6 ≤ M 131 9) (hp3 : ¬ M 131 12 = 0 ∨ 0 ≤ Cu M ∧ Cu M + 2 * (6 - M 131 16) + 4 ≤ 64) (hp4 : Wl M) (hmu : (7 - M 131 16) * 8 + 4 < ((nr + 1 : Nat) : Int)), CV l yX12_readUnit cX12_readUnit 2 none (14 + (nr + 1)) (fun ad => [.ref (ad 131)]) M (fun M' => Fr [131, 133] M M' ∧ (Wl M' ∧ 0 ≤ M' 131 9 ∧ M' 131 9 ≤ M' 131 8 ∧ M' 131 8 ≤ M' 131 7 ∧ M' 131 7 ≤ 900 ∧ (M' 131 10 = 0 ∨ M' 131 9 < M' 131 8) ∧ M' 131 7 = M 131 7 ∧ M' 131 16 = M 131 16 ∧ M 131 9 ≤ M' 131 9 ∧ M' 133 6 + M 131 9 ≤ M 133 6 + M' 131 9 ∧ (M' 131 12 = 0 → M 131 12 = 0 ∧ Cu M' = Cu M + 1) ∧ M' 133 1 = M 133 1) ∧ (RdE 2 (M 131 16) (absR M) (absR M'))) := by
  intro M hJ hp0 hp1 hp2 hp3 hp4 hmu
  obtain ⟨hI, hW⟩ := hJ
  have hF : Fr [131, 133] M M := Fr.rf
  refine en_v (by decide +kernel) (fun ad => by exact Nat.le_of_ble_eq_true rfl) (fun D cy ad A p e s m args below meth c Q F hret => ?_)
  refine z_eq (ls' := [(0, .ref (ad 131))]) rfl rfl rfl ?_
  have hL := hp4
  refine z_aload_n F dX12_readUnit_0 rfl (q := 0) rfl ?_
  refine gf_X12_108 F hI gs_131 rfl bd_131_12 dX12_readUnit_1 (fun v1 ev1 av1 bv1 => ?_)
  refine z_if_eq (tgt := 8) F dX12_readUnit_4 (by decide +kernel) (by omega) (fun c2 => ?_) (fun c2 => ?_)
  · refine z_aload_n F dX12_readUnit_8 rfl (q := 0) rfl ?_
    refine z_ldcS (j := 74) F dX12_readUnit_9 rfl rfl rfl ?_
    refine z_eq (st' := [.ref (ad 1074), .ref (ad 131)]) rfl rfl rfl ?_
    refine zv_i (rest := []) F (kp_X12_isWord_131_1074 l M ⟨hI, hW⟩ (by omega)) cs_X12_123 (T := TX12) (N := 44) (ci := 12) rfl gs_131 (by omega) (by decide) rfl rfl rfl (Nat.le_of_ble_eq_true rfl) dX12_readUnit_11 (fun v3 M4 rv3 hI p5 => ?_)
    obtain ⟨hI, hW⟩ := hI
    obtain ⟨⟨av3, bv3⟩, rfl, xp5, yp5⟩ := p5
    refine z_if_eq (tgt := 44) F dX12_readUnit_14 (by decide +kernel) (by omega) (fun c6 => ?_) (fun c6 => ?_)
    · refine z_aload_n F dX12_readUnit_44 rfl (q := 0) rfl ?_
      refine z_bipush F dX12_readUnit_45 (by decide +kernel) ?_
      refine zv_i (rest := []) F (kp_X12_isSign l M ⟨hI, hW⟩ 91 (by omega) (by omega)) cs_X12_162 (T := TX12) (N := 44) (ci := 12) rfl gs_131 (by omega) (by decide) rfl rfl rfl (Nat.le_of_ble_eq_true rfl) dX12_readUnit_47 (fun v7 M8 rv7 hI p9 => ?_)
      obtain ⟨hI, hW⟩ := hI
      obtain ⟨⟨av7, bv7⟩, rfl, xp9, yp9⟩ := p9
      refine z_if_eq (tgt := 80) F dX12_readUnit_50 (by decide +kernel) (by omega) (fun c10 => ?_) (fun c10 => ?_)
      · refine z_aload_n F dX12_readUnit_80 rfl (q := 0) rfl ?_
        refine zv_v (rest := []) F (ih.2.2.2.1 M ⟨hI, hW⟩ (by omega) (by omega) (by omega) (by omega) hL (by omega)) cs_X12_171 (T := TX12) (N := 44) (ci := 12) rfl gs_131 (by omega) (by decide) rfl rfl rfl (Nat.le_of_ble_eq_true rfl) dX12_readUnit_81 (fun M11 hI p12 => ?_)
        obtain ⟨hI, hW⟩ := hI
        obtain ⟨fp12, xp12, yp12⟩ := p12
        have hF := hF.call fp12 (by decide)
        have tM11_133_1 : M11 133 1 = M 133 1 := fp12.fr (by decide) (by decide)
        obtain ⟨hL, xp12⟩ := xp12
        refine z_aload_n F dX12_readUnit_84 rfl (q := 0) rfl ?_
        refine gf_X12_88 F hI gs_131 rfl bd_131_10 dX12_readUnit_85 (fun v13 ev13 av13 bv13 => ?_)
        refine z_istore_n F dX12_readUnit_88 rfl (by decide) (ls' := [(1, ii v13), (0, .ref (ad 131))]) rfl ?_
        refine z_iload_n F dX12_readUnit_89 rfl (q := 0) rfl ?_
        refine z_bipush F dX12_readUnit_90 (by decide +kernel) ?_
        refine z_icmp_eq (tgt := 112) F dX12_readUnit_92 (by decide +kernel) (by omega) (by omega) (fun c14 => ?_) (fun c14 => ?_)
        · refine z_aload_n F dX12_readUnit_112 rfl (q := 1) rfl ?_
          refine gf_X12_108 F hI gs_131 rfl bd_131_12 dX12_readUnit_113 (fun v15 ev15 av15 bv15 => ?_)
          refine z_if_ne (tgt := 123) F dX12_readUnit_116 (by decide +kernel) (by omega) (fun c16 => ?_) (fun c16 => ?_)
          · refine z_aload_n F dX12_readUnit_123 rfl (q := 1) rfl ?_
            refine zv_v (rest := []) F (ih.2.2.2.1 M11 ⟨hI, hW⟩ (by omega) (by omega) (by omega) (by omega) hL (by omega)) cs_X12_171 (T := TX12) (N := 44) (ci := 12) rfl gs_131 (by omega) (by decide) rfl rfl rfl (Nat.le_of_ble_eq_true rfl) dX12_readUnit_124 (fun M17 hI p18 => ?_)
            obtain ⟨hI, hW⟩ := hI
            obtain ⟨fp18, xp18, yp18⟩ := p18
            have hF := hF.call fp18 (by decide)
            have tM17_133_1 : M17 133 1 = M11 133 1 := fp18.fr (by decide) (by decide)
            obtain ⟨hL, xp18⟩ := xp18
            refine z_aload_n F dX12_readUnit_127 rfl (q := 1) rfl ?_
            refine z_iload_n F dX12_readUnit_128 rfl (q := 0) rfl ?_
            refine z_bipush F dX12_readUnit_129 (by decide +kernel) ?_
            refine z_icmp_ne (tgt := 139) F dX12_readUnit_131 (by decide +kernel) (by omega) (by omega) (fun c19 => by exfalso; omega) (fun c19 => ?_)
            refine z_bipush F dX12_readUnit_134 (by decide +kernel) ?_
            refine z_goto (tgt := 152) F dX12_readUnit_136 (by decide +kernel) ?_
            refine zv_v (rest := []) F (kp_X12_laysStep l M17 ⟨hI, hW⟩ 13 (by omega) (by omega) (by omega) hL (by omega)) cs_X12_149 (T := TX12) (N := 44) (ci := 12) rfl gs_131 (by omega) (by decide) rfl rfl rfl (Nat.le_of_ble_eq_true rfl) dX12_readUnit_152 (fun M20 hI p21 => ?_)
            obtain ⟨hI, hW⟩ := hI
            obtain ⟨fp21, xp21, yp21⟩ := p21
            have hF := hF.call fp21 (by decide)
            have tM20_131_7 : M20 131 7 = M17 131 7 := fp21.at (by decide)
            have tM20_131_8 : M20 131 8 = M17 131 8 := fp21.at (by decide)
            have tM20_131_9 : M20 131 9 = M17 131 9 := fp21.at (by decide)
            have tM20_131_10 : M20 131 10 = M17 131 10 := fp21.at (by decide)
            have tM20_131_12 : M20 131 12 = M17 131 12 := fp21.at (by decide)
            have tM20_131_16 : M20 131 16 = M17 131 16 := fp21.at (by decide)
            have tM20_133_1 : M20 133 1 = M17 133 1 := fp21.fr (by decide) (by decide)
            obtain ⟨hL, xp21⟩ := xp21
            have q23 : cmpT (absR M11) = absR M11 := cmpT_f (by rw [vR_fl]; omega)
            have y22 := yp18
            rw [show M11 131 16 = M 131 16 from by omega, ← q23] at y22
            exact hret _ 155 _ ⟨hI, hW⟩ ⟨hF, ⟨hL, by omega⟩, (by rw [yp21]; exact r_cmp (wz_f yp5 (by omega)) (wz_f yp9 (by omega)) yp12 y22)⟩ dX12_readUnit_155
          · refine z_aload_n F dX12_readUnit_119 rfl (q := 1) rfl ?_
            refine zv_v (rest := []) F (kp_X12_readsOn l M11 ⟨hI, hW⟩ (by omega)) cs_X12_127 (T := TX12) (N := 44) (ci := 12) rfl gs_131 (by omega) (by decide) rfl rfl rfl (Nat.le_of_ble_eq_true rfl) dX12_readUnit_120 (fun M24 hI p25 => ?_)
            obtain ⟨hI, hW⟩ := hI
            obtain ⟨fp25, xp25, yp25⟩ := p25
            have hF := hF.call fp25 (by decide)
            have tM24_133_6 : M24 133 6 = M11 133 6 := fp25.at (by decide)
            have tM24_133_1 : M24 133 1 = M11 133 1 := fp25.at (by decide)
            have hq9 := wl_fr fp25 (by decide)
            have hL := hq9.2 hL
            have cM24 := hq9.1
            clear hq9
            refine z_aload_n F dX12_readUnit_123 rfl (q := 1) rfl ?_
            refine zv_v (rest := []) F (ih.2.2.2.1 M24 ⟨hI, hW⟩ (by omega) (by omega) (by omega) (by omega) hL (by omega)) cs_X12_171 (T := TX12) (N := 44) (ci := 12) rfl gs_131 (by omega) (by decide) rfl rfl rfl (Nat.le_of_ble_eq_true rfl) dX12_readUnit_124 (fun M26 hI p27 => ?_)
            obtain ⟨hI, hW⟩ := hI
            obtain ⟨fp27, xp27, yp27⟩ := p27
            have hF := hF.call fp27 (by decide)
            have tM26_133_1 : M26 133 1 = M24 133 1 := fp27.fr (by decide) (by decide)
            obtain ⟨hL, xp27⟩ := xp27
            refine z_aload_n F dX12_readUnit_127 rfl (q := 1) rfl ?_
            refine z_iload_n F dX12_readUnit_128 rfl (q := 0) rfl ?_
            refine z_bipush F dX12_readUnit_129 (by decide +kernel) ?_
            refine z_icmp_ne (tgt := 139) F dX12_readUnit_131 (by decide +kernel) (by omega) (by omega) (fun c28 => by exfalso; omega) (fun c28 => ?_)
            refine z_bipush F dX12_readUnit_134 (by decide +kernel) ?_
            refine z_goto (tgt := 152) F dX12_readUnit_136 (by decide +kernel) ?_
            refine zv_v (rest := []) F (kp_X12_laysStep l M26 ⟨hI, hW⟩ 13 (by omega) (by omega) (by omega) hL (by omega)) cs_X12_149 (T := TX12) (N := 44) (ci := 12) rfl gs_131 (by omega) (by decide) rfl rfl rfl (Nat.le_of_ble_eq_true rfl) dX12_readUnit_152 (fun M29 hI p30 => ?_)
            obtain ⟨hI, hW⟩ := hI
            obtain ⟨fp30, xp30, yp30⟩ := p30
            have hF := hF.call fp30 (by decide)
            have tM29_131_7 : M29 131 7 = M26 131 7 := fp30.at (by decide)
            have tM29_131_8 : M29 131 8 = M26 131 8 := fp30.at (by decide)
            have tM29_131_9 : M29 131 9 = M26 131 9 := fp30.at (by decide)
            have tM29_131_10 : M29 131 10 = M26 131 10 := fp30.at (by decide)
            have tM29_131_12 : M29 131 12 = M26 131 12 := fp30.at (by decide)
            have tM29_131_16 : M29 131 16 = M26 131 16 := fp30.at (by decide)
            have tM29_133_1 : M29 133 1 = M26 133 1 := fp30.fr (by decide) (by decide)
            obtain ⟨hL, xp30⟩ := xp30
            have q32 : cmpT (absR M11) = absR M24 := cmpR_t (by omega) (by unfold tkR; omega) (yp25 (by omega))
            have y31 := yp27
            rw [show M24 131 16 = M 131 16 from by omega, ← q32] at y31
            exact hret _ 155 _ ⟨hI, hW⟩ ⟨hF, ⟨hL, by omega⟩, (by rw [yp30]; exact r_cmp (wz_f yp5 (by omega)) (wz_f yp9 (by omega)) yp12 y31)⟩ dX12_readUnit_155
        · refine z_iload_n F dX12_readUnit_95 rfl (q := 0) rfl ?_
          refine z_bipush F dX12_readUnit_96 (by decide +kernel) ?_
          refine z_icmp_eq (tgt := 112) F dX12_readUnit_98 (by decide +kernel) (by omega) (by omega) (fun c33 => ?_) (fun c33 => ?_)
          · refine z_aload_n F dX12_readUnit_112 rfl (q := 1) rfl ?_
            refine gf_X12_108 F hI gs_131 rfl bd_131_12 dX12_readUnit_113 (fun v34 ev34 av34 bv34 => ?_)
            refine z_if_ne (tgt := 123) F dX12_readUnit_116 (by decide +kernel) (by omega) (fun c35 => ?_) (fun c35 => ?_)
            · refine z_aload_n F dX12_readUnit_123 rfl (q := 1) rfl ?_
              refine zv_v (rest := []) F (ih.2.2.2.1 M11 ⟨hI, hW⟩ (by omega) (by omega) (by omega) (by omega) hL (by omega)) cs_X12_171 (T := TX12) (N := 44) (ci := 12) rfl gs_131 (by omega) (by decide) rfl rfl rfl (Nat.le_of_ble_eq_true rfl) dX12_readUnit_124 (fun M36 hI p37 => ?_)
              obtain ⟨hI, hW⟩ := hI
              obtain ⟨fp37, xp37, yp37⟩ := p37
              have hF := hF.call fp37 (by decide)
              have tM36_133_1 : M36 133 1 = M11 133 1 := fp37.fr (by decide) (by decide)
              obtain ⟨hL, xp37⟩ := xp37
              refine z_aload_n F dX12_readUnit_127 rfl (q := 1) rfl ?_
              refine z_iload_n F dX12_readUnit_128 rfl (q := 0) rfl ?_
              refine z_bipush F dX12_readUnit_129 (by decide +kernel) ?_
              refine z_icmp_ne (tgt := 139) F dX12_readUnit_131 (by decide +kernel) (by omega) (by omega) (fun c38 => ?_) (fun c38 => by exfalso; omega)
              refine z_iload_n F dX12_readUnit_139 rfl (q := 0) rfl ?_
              refine z_bipush F dX12_readUnit_140 (by decide +kernel) ?_
              refine z_icmp_ne (tgt := 150) F dX12_readUnit_142 (by decide +kernel) (by omega) (by omega) (fun c39 => by exfalso; omega) (fun c39 => ?_)
              refine z_bipush F dX12_readUnit_145 (by decide +kernel) ?_
              refine z_goto (tgt := 152) F dX12_readUnit_147 (by decide +kernel) ?_
              refine zv_v (rest := []) F (kp_X12_laysStep l M36 ⟨hI, hW⟩ 14 (by omega) (by omega) (by omega) hL (by omega)) cs_X12_149 (T := TX12) (N := 44) (ci := 12) rfl gs_131 (by omega) (by decide) rfl rfl rfl (Nat.le_of_ble_eq_true rfl) dX12_readUnit_152 (fun M40 hI p41 => ?_)
              obtain ⟨hI, hW⟩ := hI
              obtain ⟨fp41, xp41, yp41⟩ := p41
              have hF := hF.call fp41 (by decide)
              have tM40_131_7 : M40 131 7 = M36 131 7 := fp41.at (by decide)
              have tM40_131_8 : M40 131 8 = M36 131 8 := fp41.at (by decide)
              have tM40_131_9 : M40 131 9 = M36 131 9 := fp41.at (by decide)
              have tM40_131_10 : M40 131 10 = M36 131 10 := fp41.at (by decide)
              have tM40_131_12 : M40 131 12 = M36 131 12 := fp41.at (by decide)
              have tM40_131_16 : M40 131 16 = M36 131 16 := fp41.at (by decide)
              have tM40_133_1 : M40 133 1 = M36 133 1 := fp41.fr (by decide) (by decide)
              obtain ⟨hL, xp41⟩ := xp41
              have q43 : cmpT (absR M11) = absR M11 := cmpT_f (by rw [vR_fl]; omega)
              have y42 := yp37
              rw [show M11 131 16 = M 131 16 from by omega, ← q43] at y42
              exact hret _ 155 _ ⟨hI, hW⟩ ⟨hF, ⟨hL, by omega⟩, (by rw [yp41]; exact r_cmp (wz_f yp5 (by omega)) (wz_f yp9 (by omega)) yp12 y42)⟩ dX12_readUnit_155
            · refine z_aload_n F dX12_readUnit_119 rfl (q := 1) rfl ?_
              refine zv_v (rest := []) F (kp_X12_readsOn l M11 ⟨hI, hW⟩ (by omega)) cs_X12_127 (T := TX12) (N := 44) (ci := 12) rfl gs_131 (by omega) (by decide) rfl rfl rfl (Nat.le_of_ble_eq_true rfl) dX12_readUnit_120 (fun M44 hI p45 => ?_)
              obtain ⟨hI, hW⟩ := hI
              obtain ⟨fp45, xp45, yp45⟩ := p45
              have hF := hF.call fp45 (by decide)
              have tM44_133_6 : M44 133 6 = M11 133 6 := fp45.at (by decide)
              have tM44_133_1 : M44 133 1 = M11 133 1 := fp45.at (by decide)
              have hq9 := wl_fr fp45 (by decide)
              have hL := hq9.2 hL
              have cM44 := hq9.1
              clear hq9
              refine z_aload_n F dX12_readUnit_123 rfl (q := 1) rfl ?_
              refine zv_v (rest := []) F (ih.2.2.2.1 M44 ⟨hI, hW⟩ (by omega) (by omega) (by omega) (by omega) hL (by omega)) cs_X12_171 (T := TX12) (N := 44) (ci := 12) rfl gs_131 (by omega) (by decide) rfl rfl rfl (Nat.le_of_ble_eq_true rfl) dX12_readUnit_124 (fun M46 hI p47 => ?_)
              obtain ⟨hI, hW⟩ := hI
              obtain ⟨fp47, xp47, yp47⟩ := p47
              have hF := hF.call fp47 (by decide)
              have tM46_133_1 : M46 133 1 = M44 133 1 := fp47.fr (by decide) (by decide)
              obtain ⟨hL, xp47⟩ := xp47
              refine z_aload_n F dX12_readUnit_127 rfl (q := 1) rfl ?_
              refine z_iload_n F dX12_readUnit_128 rfl (q := 0) rfl ?_
              refine z_bipush F dX12_readUnit_129 (by decide +kernel) ?_
              refine z_icmp_ne (tgt := 139) F dX12_readUnit_131 (by decide +kernel) (by omega) (by omega) (fun c48 => ?_) (fun c48 => by exfalso; omega)
              refine z_iload_n F dX12_readUnit_139 rfl (q := 0) rfl ?_
              refine z_bipush F dX12_readUnit_140 (by decide +kernel) ?_
              refine z_icmp_ne (tgt := 150) F dX12_readUnit_142 (by decide +kernel) (by omega) (by omega) (fun c49 => by exfalso; omega) (fun c49 => ?_)
              refine z_bipush F dX12_readUnit_145 (by decide +kernel) ?_
              refine z_goto (tgt := 152) F dX12_readUnit_147 (by decide +kernel) ?_
              refine zv_v (rest := []) F (kp_X12_laysStep l M46 ⟨hI, hW⟩ 14 (by omega) (by omega) (by omega) hL (by omega)) cs_X12_149 (T := TX12) (N := 44) (ci := 12) rfl gs_131 (by omega) (by decide) rfl rfl rfl (Nat.le_of_ble_eq_true rfl) dX12_readUnit_152 (fun M50 hI p51 => ?_)
              obtain ⟨hI, hW⟩ := hI
              obtain ⟨fp51, xp51, yp51⟩ := p51
              have hF := hF.call fp51 (by decide)
              have tM50_131_7 : M50 131 7 = M46 131 7 := fp51.at (by decide)
              have tM50_131_8 : M50 131 8 = M46 131 8 := fp51.at (by decide)
              have tM50_131_9 : M50 131 9 = M46 131 9 := fp51.at (by decide)
              have tM50_131_10 : M50 131 10 = M46 131 10 := fp51.at (by decide)
              have tM50_131_12 : M50 131 12 = M46 131 12 := fp51.at (by decide)
              have tM50_131_16 : M50 131 16 = M46 131 16 := fp51.at (by decide)
              have tM50_133_1 : M50 133 1 = M46 133 1 := fp51.fr (by decide) (by decide)
              obtain ⟨hL, xp51⟩ := xp51
              have q53 : cmpT (absR M11) = absR M44 := cmpR_t (by omega) (by unfold tkR; omega) (yp45 (by omega))
              have y52 := yp47
              rw [show M44 131 16 = M 131 16 from by omega, ← q53] at y52
              exact hret _ 155 _ ⟨hI, hW⟩ ⟨hF, ⟨hL, by omega⟩, (by rw [yp51]; exact r_cmp (wz_f yp5 (by omega)) (wz_f yp9 (by omega)) yp12 y52)⟩ dX12_readUnit_155
          · refine z_iload_n F dX12_readUnit_101 rfl (q := 0) rfl ?_
            refine z_bipush F dX12_readUnit_102 (by decide +kernel) ?_
            refine z_icmp_eq (tgt := 112) F dX12_readUnit_104 (by decide +kernel) (by omega) (by omega) (fun c54 => ?_) (fun c54 => ?_)
            · refine z_aload_n F dX12_readUnit_112 rfl (q := 1) rfl ?_
              refine gf_X12_108 F hI gs_131 rfl bd_131_12 dX12_readUnit_113 (fun v55 ev55 av55 bv55 => ?_)
              refine z_if_ne (tgt := 123) F dX12_readUnit_116 (by decide +kernel) (by omega) (fun c56 => ?_) (fun c56 => ?_)
              · refine z_aload_n F dX12_readUnit_123 rfl (q := 1) rfl ?_
                refine zv_v (rest := []) F (ih.2.2.2.1 M11 ⟨hI, hW⟩ (by omega) (by omega) (by omega) (by omega) hL (by omega)) cs_X12_171 (T := TX12) (N := 44) (ci := 12) rfl gs_131 (by omega) (by decide) rfl rfl rfl (Nat.le_of_ble_eq_true rfl) dX12_readUnit_124 (fun M57 hI p58 => ?_)
                obtain ⟨hI, hW⟩ := hI
                obtain ⟨fp58, xp58, yp58⟩ := p58
                have hF := hF.call fp58 (by decide)
                have tM57_133_1 : M57 133 1 = M11 133 1 := fp58.fr (by decide) (by decide)
                obtain ⟨hL, xp58⟩ := xp58
                refine z_aload_n F dX12_readUnit_127 rfl (q := 1) rfl ?_
                refine z_iload_n F dX12_readUnit_128 rfl (q := 0) rfl ?_
                refine z_bipush F dX12_readUnit_129 (by decide +kernel) ?_
                refine z_icmp_ne (tgt := 139) F dX12_readUnit_131 (by decide +kernel) (by omega) (by omega) (fun c59 => ?_) (fun c59 => by exfalso; omega)
                refine z_iload_n F dX12_readUnit_139 rfl (q := 0) rfl ?_
                refine z_bipush F dX12_readUnit_140 (by decide +kernel) ?_
                refine z_icmp_ne (tgt := 150) F dX12_readUnit_142 (by decide +kernel) (by omega) (by omega) (fun c60 => ?_) (fun c60 => by exfalso; omega)
                refine z_bipush F dX12_readUnit_150 (by decide +kernel) ?_
                refine zv_v (rest := []) F (kp_X12_laysStep l M57 ⟨hI, hW⟩ 15 (by omega) (by omega) (by omega) hL (by omega)) cs_X12_149 (T := TX12) (N := 44) (ci := 12) rfl gs_131 (by omega) (by decide) rfl rfl rfl (Nat.le_of_ble_eq_true rfl) dX12_readUnit_152 (fun M61 hI p62 => ?_)
                obtain ⟨hI, hW⟩ := hI
                obtain ⟨fp62, xp62, yp62⟩ := p62
                have hF := hF.call fp62 (by decide)
                have tM61_131_7 : M61 131 7 = M57 131 7 := fp62.at (by decide)
                have tM61_131_8 : M61 131 8 = M57 131 8 := fp62.at (by decide)
                have tM61_131_9 : M61 131 9 = M57 131 9 := fp62.at (by decide)
                have tM61_131_10 : M61 131 10 = M57 131 10 := fp62.at (by decide)
                have tM61_131_12 : M61 131 12 = M57 131 12 := fp62.at (by decide)
                have tM61_131_16 : M61 131 16 = M57 131 16 := fp62.at (by decide)
                have tM61_133_1 : M61 133 1 = M57 133 1 := fp62.fr (by decide) (by decide)
                obtain ⟨hL, xp62⟩ := xp62
                have q64 : cmpT (absR M11) = absR M11 := cmpT_f (by rw [vR_fl]; omega)
                have y63 := yp58
                rw [show M11 131 16 = M 131 16 from by omega, ← q64] at y63
                exact hret _ 155 _ ⟨hI, hW⟩ ⟨hF, ⟨hL, by omega⟩, (by rw [yp62]; exact r_cmp (wz_f yp5 (by omega)) (wz_f yp9 (by omega)) yp12 y63)⟩ dX12_readUnit_155
              · refine z_aload_n F dX12_readUnit_119 rfl (q := 1) rfl ?_
                refine zv_v (rest := []) F (kp_X12_readsOn l M11 ⟨hI, hW⟩ (by omega)) cs_X12_127 (T := TX12) (N := 44) (ci := 12) rfl gs_131 (by omega) (by decide) rfl rfl rfl (Nat.le_of_ble_eq_true rfl) dX12_readUnit_120 (fun M65 hI p66 => ?_)
                obtain ⟨hI, hW⟩ := hI
                obtain ⟨fp66, xp66, yp66⟩ := p66
                have hF := hF.call fp66 (by decide)
                have tM65_133_6 : M65 133 6 = M11 133 6 := fp66.at (by decide)
                have tM65_133_1 : M65 133 1 = M11 133 1 := fp66.at (by decide)
                have hq9 := wl_fr fp66 (by decide)
                have hL := hq9.2 hL
                have cM65 := hq9.1
                clear hq9
                refine z_aload_n F dX12_readUnit_123 rfl (q := 1) rfl ?_
                refine zv_v (rest := []) F (ih.2.2.2.1 M65 ⟨hI, hW⟩ (by omega) (by omega) (by omega) (by omega) hL (by omega)) cs_X12_171 (T := TX12) (N := 44) (ci := 12) rfl gs_131 (by omega) (by decide) rfl rfl rfl (Nat.le_of_ble_eq_true rfl) dX12_readUnit_124 (fun M67 hI p68 => ?_)
                obtain ⟨hI, hW⟩ := hI
                obtain ⟨fp68, xp68, yp68⟩ := p68
                have hF := hF.call fp68 (by decide)
                have tM67_133_1 : M67 133 1 = M65 133 1 := fp68.fr (by decide) (by decide)
                obtain ⟨hL, xp68⟩ := xp68
                refine z_aload_n F dX12_readUnit_127 rfl (q := 1) rfl ?_
                refine z_iload_n F dX12_readUnit_128 rfl (q := 0) rfl ?_
                refine z_bipush F dX12_readUnit_129 (by decide +kernel) ?_
                refine z_icmp_ne (tgt := 139) F dX12_readUnit_131 (by decide +kernel) (by omega) (by omega) (fun c69 => ?_) (fun c69 => by exfalso; omega)
                refine z_iload_n F dX12_readUnit_139 rfl (q := 0) rfl ?_
                refine z_bipush F dX12_readUnit_140 (by decide +kernel) ?_
                refine z_icmp_ne (tgt := 150) F dX12_readUnit_142 (by decide +kernel) (by omega) (by omega) (fun c70 => ?_) (fun c70 => by exfalso; omega)
                refine z_bipush F dX12_readUnit_150 (by decide +kernel) ?_
                refine zv_v (rest := []) F (kp_X12_laysStep l M67 ⟨hI, hW⟩ 15 (by omega) (by omega) (by omega) hL (by omega)) cs_X12_149 (T := TX12) (N := 44) (ci := 12) rfl gs_131 (by omega) (by decide) rfl rfl rfl (Nat.le_of_ble_eq_true rfl) dX12_readUnit_152 (fun M71 hI p72 => ?_)
                obtain ⟨hI, hW⟩ := hI
                obtain ⟨fp72, xp72, yp72⟩ := p72
                have hF := hF.call fp72 (by decide)
                have tM71_131_7 : M71 131 7 = M67 131 7 := fp72.at (by decide)
                have tM71_131_8 : M71 131 8 = M67 131 8 := fp72.at (by decide)
                have tM71_131_9 : M71 131 9 = M67 131 9 := fp72.at (by decide)
                have tM71_131_10 : M71 131 10 = M67 131 10 := fp72.at (by decide)
                have tM71_131_12 : M71 131 12 = M67 131 12 := fp72.at (by decide)
                have tM71_131_16 : M71 131 16 = M67 131 16 := fp72.at (by decide)
                have tM71_133_1 : M71 133 1 = M67 133 1 := fp72.fr (by decide) (by decide)
                obtain ⟨hL, xp72⟩ := xp72
                have q74 : cmpT (absR M11) = absR M65 := cmpR_t (by omega) (by unfold tkR; omega) (yp66 (by omega))
                have y73 := yp68
                rw [show M65 131 16 = M 131 16 from by omega, ← q74] at y73
                exact hret _ 155 _ ⟨hI, hW⟩ ⟨hF, ⟨hL, by omega⟩, (by rw [yp72]; exact r_cmp (wz_f yp5 (by omega)) (wz_f yp9 (by omega)) yp12 y73)⟩ dX12_readUnit_155
            · refine z_aload_n F dX12_readUnit_107 rfl (q := 1) rfl ?_
              refine z_iconst F dX12_readUnit_108 ?_
              refine zv_v (rest := []) F (kp_X12_blames l M11 ⟨hI, hW⟩ 2 (by omega) (by omega)) cs_X12_133 (T := TX12) (N := 44) (ci := 12) rfl gs_131 (by omega) (by decide) rfl rfl rfl (Nat.le_of_ble_eq_true rfl) dX12_readUnit_109 (fun M75 hI p76 => ?_)
              obtain ⟨hI, hW⟩ := hI
              obtain ⟨fp76, xp76, yp76⟩ := p76
              have hF := hF.call fp76 (by decide)
              have tM75_133_6 : M75 133 6 = M11 133 6 := fp76.at (by decide)
              have tM75_133_1 : M75 133 1 = M11 133 1 := fp76.at (by decide)
              have hq9 := wl_fr fp76 (by decide)
              have hL := hq9.2 hL
              have cM75 := hq9.1
              clear hq9
              refine z_aload_n F dX12_readUnit_112 rfl (q := 1) rfl ?_
              refine gf_X12_108 F hI gs_131 rfl bd_131_12 dX12_readUnit_113 (fun v77 ev77 av77 bv77 => ?_)
              refine z_if_ne (tgt := 123) F dX12_readUnit_116 (by decide +kernel) (by omega) (fun c78 => ?_) (fun c78 => ?_)
              · refine z_aload_n F dX12_readUnit_123 rfl (q := 1) rfl ?_
                refine zv_v (rest := []) F (ih.2.2.2.1 M75 ⟨hI, hW⟩ (by omega) (by omega) (by omega) (by omega) hL (by omega)) cs_X12_171 (T := TX12) (N := 44) (ci := 12) rfl gs_131 (by omega) (by decide) rfl rfl rfl (Nat.le_of_ble_eq_true rfl) dX12_readUnit_124 (fun M79 hI p80 => ?_)
                obtain ⟨hI, hW⟩ := hI
                obtain ⟨fp80, xp80, yp80⟩ := p80
                have hF := hF.call fp80 (by decide)
                have tM79_133_1 : M79 133 1 = M75 133 1 := fp80.fr (by decide) (by decide)
                obtain ⟨hL, xp80⟩ := xp80
                refine z_aload_n F dX12_readUnit_127 rfl (q := 1) rfl ?_
                refine z_iload_n F dX12_readUnit_128 rfl (q := 0) rfl ?_
                refine z_bipush F dX12_readUnit_129 (by decide +kernel) ?_
                refine z_icmp_ne (tgt := 139) F dX12_readUnit_131 (by decide +kernel) (by omega) (by omega) (fun c81 => ?_) (fun c81 => ?_)
                · refine z_iload_n F dX12_readUnit_139 rfl (q := 0) rfl ?_
                  refine z_bipush F dX12_readUnit_140 (by decide +kernel) ?_
                  refine z_icmp_ne (tgt := 150) F dX12_readUnit_142 (by decide +kernel) (by omega) (by omega) (fun c82 => ?_) (fun c82 => ?_)
                  · refine z_bipush F dX12_readUnit_150 (by decide +kernel) ?_
                    refine zv_v (rest := []) F (kp_X12_laysStep l M79 ⟨hI, hW⟩ 15 (by omega) (by omega) (by omega) hL (by omega)) cs_X12_149 (T := TX12) (N := 44) (ci := 12) rfl gs_131 (by omega) (by decide) rfl rfl rfl (Nat.le_of_ble_eq_true rfl) dX12_readUnit_152 (fun M83 hI p84 => ?_)
                    obtain ⟨hI, hW⟩ := hI
                    obtain ⟨fp84, xp84, yp84⟩ := p84
                    have hF := hF.call fp84 (by decide)
                    have tM83_131_7 : M83 131 7 = M79 131 7 := fp84.at (by decide)
                    have tM83_131_8 : M83 131 8 = M79 131 8 := fp84.at (by decide)
                    have tM83_131_9 : M83 131 9 = M79 131 9 := fp84.at (by decide)
                    have tM83_131_10 : M83 131 10 = M79 131 10 := fp84.at (by decide)
                    have tM83_131_12 : M83 131 12 = M79 131 12 := fp84.at (by decide)
                    have tM83_131_16 : M83 131 16 = M79 131 16 := fp84.at (by decide)
                    have tM83_133_1 : M83 133 1 = M79 133 1 := fp84.fr (by decide) (by decide)
                    obtain ⟨hL, xp84⟩ := xp84
                    have q86 : cmpT (absR M11) = absR M75 := cmpR_n (by unfold tkR; omega) yp76
                    have y85 := yp80
                    rw [show M75 131 16 = M 131 16 from by omega, ← q86] at y85
                    exact hret _ 155 _ ⟨hI, hW⟩ ⟨hF, ⟨hL, by omega⟩, (by rw [yp84]; exact r_cmp (wz_f yp5 (by omega)) (wz_f yp9 (by omega)) yp12 y85)⟩ dX12_readUnit_155
                  · refine z_bipush F dX12_readUnit_145 (by decide +kernel) ?_
                    refine z_goto (tgt := 152) F dX12_readUnit_147 (by decide +kernel) ?_
                    refine zv_v (rest := []) F (kp_X12_laysStep l M79 ⟨hI, hW⟩ 14 (by omega) (by omega) (by omega) hL (by omega)) cs_X12_149 (T := TX12) (N := 44) (ci := 12) rfl gs_131 (by omega) (by decide) rfl rfl rfl (Nat.le_of_ble_eq_true rfl) dX12_readUnit_152 (fun M87 hI p88 => ?_)
                    obtain ⟨hI, hW⟩ := hI
                    obtain ⟨fp88, xp88, yp88⟩ := p88
                    have hF := hF.call fp88 (by decide)
                    have tM87_131_7 : M87 131 7 = M79 131 7 := fp88.at (by decide)
                    have tM87_131_8 : M87 131 8 = M79 131 8 := fp88.at (by decide)
                    have tM87_131_9 : M87 131 9 = M79 131 9 := fp88.at (by decide)
                    have tM87_131_10 : M87 131 10 = M79 131 10 := fp88.at (by decide)
                    have tM87_131_12 : M87 131 12 = M79 131 12 := fp88.at (by decide)
                    have tM87_131_16 : M87 131 16 = M79 131 16 := fp88.at (by decide)
                    have tM87_133_1 : M87 133 1 = M79 133 1 := fp88.fr (by decide) (by decide)
                    obtain ⟨hL, xp88⟩ := xp88
                    have q90 : cmpT (absR M11) = absR M75 := cmpR_n (by unfold tkR; omega) yp76
                    have y89 := yp80
                    rw [show M75 131 16 = M 131 16 from by omega, ← q90] at y89
                    exact hret _ 155 _ ⟨hI, hW⟩ ⟨hF, ⟨hL, by omega⟩, (by rw [yp88]; exact r_cmp (wz_f yp5 (by omega)) (wz_f yp9 (by omega)) yp12 y89)⟩ dX12_readUnit_155
                · refine z_bipush F dX12_readUnit_134 (by decide +kernel) ?_
                  refine z_goto (tgt := 152) F dX12_readUnit_136 (by decide +kernel) ?_
                  refine zv_v (rest := []) F (kp_X12_laysStep l M79 ⟨hI, hW⟩ 13 (by omega) (by omega) (by omega) hL (by omega)) cs_X12_149 (T := TX12) (N := 44) (ci := 12) rfl gs_131 (by omega) (by decide) rfl rfl rfl (Nat.le_of_ble_eq_true rfl) dX12_readUnit_152 (fun M91 hI p92 => ?_)
                  obtain ⟨hI, hW⟩ := hI
                  obtain ⟨fp92, xp92, yp92⟩ := p92
                  have hF := hF.call fp92 (by decide)
                  have tM91_131_7 : M91 131 7 = M79 131 7 := fp92.at (by decide)
                  have tM91_131_8 : M91 131 8 = M79 131 8 := fp92.at (by decide)
                  have tM91_131_9 : M91 131 9 = M79 131 9 := fp92.at (by decide)
                  have tM91_131_10 : M91 131 10 = M79 131 10 := fp92.at (by decide)
                  have tM91_131_12 : M91 131 12 = M79 131 12 := fp92.at (by decide)
                  have tM91_131_16 : M91 131 16 = M79 131 16 := fp92.at (by decide)
                  have tM91_133_1 : M91 133 1 = M79 133 1 := fp92.fr (by decide) (by decide)
                  obtain ⟨hL, xp92⟩ := xp92
                  have q94 : cmpT (absR M11) = absR M75 := cmpR_n (by unfold tkR; omega) yp76
                  have y93 := yp80
                  rw [show M75 131 16 = M 131 16 from by omega, ← q94] at y93
                  exact hret _ 155 _ ⟨hI, hW⟩ ⟨hF, ⟨hL, by omega⟩, (by rw [yp92]; exact r_cmp (wz_f yp5 (by omega)) (wz_f yp9 (by omega)) yp12 y93)⟩ dX12_readUnit_155
              · refine z_aload_n F dX12_readUnit_119 rfl (q := 1) rfl ?_
                refine zv_v (rest := []) F (kp_X12_readsOn l M75 ⟨hI, hW⟩ (by omega)) cs_X12_127 (T := TX12) (N := 44) (ci := 12) rfl gs_131 (by omega) (by decide) rfl rfl rfl (Nat.le_of_ble_eq_true rfl) dX12_readUnit_120 (fun M95 hI p96 => ?_)
                obtain ⟨hI, hW⟩ := hI
                obtain ⟨fp96, xp96, yp96⟩ := p96
                have hF := hF.call fp96 (by decide)
                have tM95_133_6 : M95 133 6 = M75 133 6 := fp96.at (by decide)
                have tM95_133_1 : M95 133 1 = M75 133 1 := fp96.at (by decide)
                have hq9 := wl_fr fp96 (by decide)
                have hL := hq9.2 hL
                have cM95 := hq9.1
                clear hq9
                refine z_aload_n F dX12_readUnit_123 rfl (q := 1) rfl ?_
                refine zv_v (rest := []) F (ih.2.2.2.1 M95 ⟨hI, hW⟩ (by omega) (by omega) (by omega) (by omega) hL (by omega)) cs_X12_171 (T := TX12) (N := 44) (ci := 12) rfl gs_131 (by omega) (by decide) rfl rfl rfl (Nat.le_of_ble_eq_true rfl) dX12_readUnit_124 (fun M97 hI p98 => ?_)
                obtain ⟨hI, hW⟩ := hI
                obtain ⟨fp98, xp98, yp98⟩ := p98
                have hF := hF.call fp98 (by decide)
                have tM97_133_1 : M97 133 1 = M95 133 1 := fp98.fr (by decide) (by decide)
                obtain ⟨hL, xp98⟩ := xp98
                refine z_aload_n F dX12_readUnit_127 rfl (q := 1) rfl ?_
                refine z_iload_n F dX12_readUnit_128 rfl (q := 0) rfl ?_
                refine z_bipush F dX12_readUnit_129 (by decide +kernel) ?_
                refine z_icmp_ne (tgt := 139) F dX12_readUnit_131 (by decide +kernel) (by omega) (by omega) (fun c99 => ?_) (fun c99 => ?_)
                · refine z_iload_n F dX12_readUnit_139 rfl (q := 0) rfl ?_
                  refine z_bipush F dX12_readUnit_140 (by decide +kernel) ?_
                  refine z_icmp_ne (tgt := 150) F dX12_readUnit_142 (by decide +kernel) (by omega) (by omega) (fun c100 => ?_) (fun c100 => ?_)
                  · refine z_bipush F dX12_readUnit_150 (by decide +kernel) ?_
                    refine zv_v (rest := []) F (kp_X12_laysStep l M97 ⟨hI, hW⟩ 15 (by omega) (by omega) (by omega) hL (by omega)) cs_X12_149 (T := TX12) (N := 44) (ci := 12) rfl gs_131 (by omega) (by decide) rfl rfl rfl (Nat.le_of_ble_eq_true rfl) dX12_readUnit_152 (fun M101 hI p102 => ?_)
                    obtain ⟨hI, hW⟩ := hI
                    obtain ⟨fp102, xp102, yp102⟩ := p102
                    have hF := hF.call fp102 (by decide)
                    have tM101_131_7 : M101 131 7 = M97 131 7 := fp102.at (by decide)
                    have tM101_131_8 : M101 131 8 = M97 131 8 := fp102.at (by decide)
                    have tM101_131_9 : M101 131 9 = M97 131 9 := fp102.at (by decide)
                    have tM101_131_10 : M101 131 10 = M97 131 10 := fp102.at (by decide)
                    have tM101_131_12 : M101 131 12 = M97 131 12 := fp102.at (by decide)
                    have tM101_131_16 : M101 131 16 = M97 131 16 := fp102.at (by decide)
                    have tM101_133_1 : M101 133 1 = M97 133 1 := fp102.fr (by decide) (by decide)
                    obtain ⟨hL, xp102⟩ := xp102
                    have q104 : cmpT (absR M11) = absR M95 := by exfalso; omega
                    have y103 := yp98
                    rw [show M95 131 16 = M 131 16 from by omega, ← q104] at y103
                    exact hret _ 155 _ ⟨hI, hW⟩ ⟨hF, ⟨hL, by omega⟩, (by rw [yp102]; exact r_cmp (wz_f yp5 (by omega)) (wz_f yp9 (by omega)) yp12 y103)⟩ dX12_readUnit_155
                  · refine z_bipush F dX12_readUnit_145 (by decide +kernel) ?_
                    refine z_goto (tgt := 152) F dX12_readUnit_147 (by decide +kernel) ?_
                    refine zv_v (rest := []) F (kp_X12_laysStep l M97 ⟨hI, hW⟩ 14 (by omega) (by omega) (by omega) hL (by omega)) cs_X12_149 (T := TX12) (N := 44) (ci := 12) rfl gs_131 (by omega) (by decide) rfl rfl rfl (Nat.le_of_ble_eq_true rfl) dX12_readUnit_152 (fun M105 hI p106 => ?_)
                    obtain ⟨hI, hW⟩ := hI
                    obtain ⟨fp106, xp106, yp106⟩ := p106
                    have hF := hF.call fp106 (by decide)
                    have tM105_131_7 : M105 131 7 = M97 131 7 := fp106.at (by decide)
                    have tM105_131_8 : M105 131 8 = M97 131 8 := fp106.at (by decide)
                    have tM105_131_9 : M105 131 9 = M97 131 9 := fp106.at (by decide)
                    have tM105_131_10 : M105 131 10 = M97 131 10 := fp106.at (by decide)
                    have tM105_131_12 : M105 131 12 = M97 131 12 := fp106.at (by decide)
                    have tM105_131_16 : M105 131 16 = M97 131 16 := fp106.at (by decide)
                    have tM105_133_1 : M105 133 1 = M97 133 1 := fp106.fr (by decide) (by decide)
                    obtain ⟨hL, xp106⟩ := xp106
                    have q108 : cmpT (absR M11) = absR M95 := by exfalso; omega
                    have y107 := yp98
                    rw [show M95 131 16 = M 131 16 from by omega, ← q108] at y107
                    exact hret _ 155 _ ⟨hI, hW⟩ ⟨hF, ⟨hL, by omega⟩, (by rw [yp106]; exact r_cmp (wz_f yp5 (by omega)) (wz_f yp9 (by omega)) yp12 y107)⟩ dX12_readUnit_155
                · refine z_bipush F dX12_readUnit_134 (by decide +kernel) ?_
                  refine z_goto (tgt := 152) F dX12_readUnit_136 (by decide +kernel) ?_
                  refine zv_v (rest := []) F (kp_X12_laysStep l M97 ⟨hI, hW⟩ 13 (by omega) (by omega) (by omega) hL (by omega)) cs_X12_149 (T := TX12) (N := 44) (ci := 12) rfl gs_131 (by omega) (by decide) rfl rfl rfl (Nat.le_of_ble_eq_true rfl) dX12_readUnit_152 (fun M109 hI p110 => ?_)
                  obtain ⟨hI, hW⟩ := hI
                  obtain ⟨fp110, xp110, yp110⟩ := p110
                  have hF := hF.call fp110 (by decide)
                  have tM109_131_7 : M109 131 7 = M97 131 7 := fp110.at (by decide)
                  have tM109_131_8 : M109 131 8 = M97 131 8 := fp110.at (by decide)
                  have tM109_131_9 : M109 131 9 = M97 131 9 := fp110.at (by decide)
                  have tM109_131_10 : M109 131 10 = M97 131 10 := fp110.at (by decide)
                  have tM109_131_12 : M109 131 12 = M97 131 12 := fp110.at (by decide)
                  have tM109_131_16 : M109 131 16 = M97 131 16 := fp110.at (by decide)
                  have tM109_133_1 : M109 133 1 = M97 133 1 := fp110.fr (by decide) (by decide)
                  obtain ⟨hL, xp110⟩ := xp110
                  have q112 : cmpT (absR M11) = absR M95 := by exfalso; omega
                  have y111 := yp98
                  rw [show M95 131 16 = M 131 16 from by omega, ← q112] at y111
                  exact hret _ 155 _ ⟨hI, hW⟩ ⟨hF, ⟨hL, by omega⟩, (by rw [yp110]; exact r_cmp (wz_f yp5 (by omega)) (wz_f yp9 (by omega)) yp12 y111)⟩ dX12_readUnit_155
      · refine z_aload_n F dX12_readUnit_53 rfl (q := 0) rfl ?_
        refine zv_v (rest := []) F (kp_X12_goesIn l M ⟨hI, hW⟩ (by omega) (by omega)) cs_X12_159 (T := TX12) (N := 44) (ci := 12) rfl gs_131 (by omega) (by decide) rfl rfl rfl (Nat.le_of_ble_eq_true rfl) dX12_readUnit_54 (fun M113 hI p114 => ?_)
        obtain ⟨hI, hW⟩ := hI
        obtain ⟨fp114, xp114, yp114⟩ := p114
        have hF := hF.call fp114 (by decide)
        have tM113_133_6 : M113 133 6 = M 133 6 := fp114.at (by decide)
        have tM113_133_1 : M113 133 1 = M 133 1 := fp114.at (by decide)
        have hq9 := wl_fr fp114 (by decide)
        have hL := hq9.2 hL
        have cM113 := hq9.1
        clear hq9
        refine z_aload_n F dX12_readUnit_57 rfl (q := 0) rfl ?_
        refine zv_v (rest := []) F (ih.1 M113 ⟨hI, hW⟩ (by omega) (by omega) (by omega) (by omega) hL (by omega)) cs_X12_165 (T := TX12) (N := 44) (ci := 12) rfl gs_131 (by omega) (by decide) rfl rfl rfl (Nat.le_of_ble_eq_true rfl) dX12_readUnit_58 (fun M115 hI p116 => ?_)
        obtain ⟨hI, hW⟩ := hI
        obtain ⟨fp116, xp116, yp116⟩ := p116
        have hF := hF.call fp116 (by decide)
        have tM115_133_1 : M115 133 1 = M113 133 1 := fp116.fr (by decide) (by decide)
        obtain ⟨hL, xp116⟩ := xp116
        refine z_aload_n F dX12_readUnit_61 rfl (q := 0) rfl ?_
        refine z_bipush F dX12_readUnit_62 (by decide +kernel) ?_
        refine zv_v (rest := []) F (kp_X12_mustSign l M115 ⟨hI, hW⟩ 93 (by omega) (by omega) (by omega)) cs_X12_168 (T := TX12) (N := 44) (ci := 12) rfl gs_131 (by omega) (by decide) rfl rfl rfl (Nat.le_of_ble_eq_true rfl) dX12_readUnit_64 (fun M117 hI p118 => ?_)
        obtain ⟨hI, hW⟩ := hI
        obtain ⟨fp118, xp118, yp118⟩ := p118
        have hF := hF.call fp118 (by decide)
        have tM117_133_6 : M117 133 6 = M115 133 6 := fp118.at (by decide)
        have tM117_133_1 : M117 133 1 = M115 133 1 := fp118.at (by decide)
        have hq9 := wl_fr fp118 (by decide)
        have hL := hq9.2 hL
        have cM117 := hq9.1
        clear hq9
        refine z_aload_n F dX12_readUnit_67 rfl (q := 0) rfl ?_
        refine z_dup F dX12_readUnit_68 rfl ?_
        refine gf_X12_141 F hI gs_131 rfl bd_131_16 dX12_readUnit_69 (fun v119 ev119 av119 bv119 => ?_)
        refine z_iconst F dX12_readUnit_72 ?_
        refine z_isub F dX12_readUnit_73 ?_
        refine z_wrap (fun v120 rv120 wv120 => ?_)
        refine pf_X12_141 F hI gs_131 rfl bd_131_16 rfl rfl dX12_readUnit_74 (by omega) (by omega) (fun M122 hI sf121 f121 => ?_)
        have tM122_131_7 : M122 131 7 = M117 131 7 := f121 131 7 (fun q => absurd q.2 (by decide))
        have tM122_131_8 : M122 131 8 = M117 131 8 := f121 131 8 (fun q => absurd q.2 (by decide))
        have tM122_131_9 : M122 131 9 = M117 131 9 := f121 131 9 (fun q => absurd q.2 (by decide))
        have tM122_131_10 : M122 131 10 = M117 131 10 := f121 131 10 (fun q => absurd q.2 (by decide))
        have tM122_131_12 : M122 131 12 = M117 131 12 := f121 131 12 (fun q => absurd q.2 (by decide))
        have tM122_133_6 : M122 133 6 = M117 133 6 := f121 133 6 (fun q => absurd q.1 (by decide))
        have tM122_133_1 : M122 133 1 = M117 133 1 := f121 133 1 (fun q => absurd q.1 (by decide))
        have hq9 := wl_ws f121 (by decide)
        have hL := hq9.2 hL
        have cM122 := hq9.1
        clear hq9
        have hF := hF.wrf f121 (by decide) (by decide)
        have hW : WFk M122 := hW.site f121 (by decide)
        refine z_goto (tgt := 155) F dX12_readUnit_77 (by decide +kernel) ?_
        have q124 := yp114 (by omega) (by omega)
        have y123 := yp116
        rw [show M113 131 16 = M 131 16 + 1 from by omega, ← q124] at y123
        exact hret _ 155 _ ⟨hI, hW⟩ ⟨hF, ⟨hL, by omega⟩, (by rw [absR_16 f121, ← yp118]; exact r_brk (wz_f yp5 (by omega)) (wz_t yp9 (by omega)) y123)⟩ dX12_readUnit_155
    · refine z_aload_n F dX12_readUnit_17 rfl (q := 0) rfl ?_
      refine zv_v (rest := []) F (kp_X12_goesIn l M ⟨hI, hW⟩ (by omega) (by omega)) cs_X12_159 (T := TX12) (N := 44) (ci := 12) rfl gs_131 (by omega) (by decide) rfl rfl rfl (Nat.le_of_ble_eq_true rfl) dX12_readUnit_18 (fun M125 hI p126 => ?_)
      obtain ⟨hI, hW⟩ := hI
      obtain ⟨fp126, xp126, yp126⟩ := p126
      have hF := hF.call fp126 (by decide)
      have tM125_133_6 : M125 133 6 = M 133 6 := fp126.at (by decide)
      have tM125_133_1 : M125 133 1 = M 133 1 := fp126.at (by decide)
      have hq9 := wl_fr fp126 (by decide)
      have hL := hq9.2 hL
      have cM125 := hq9.1
      clear hq9
      refine z_aload_n F dX12_readUnit_21 rfl (q := 0) rfl ?_
      refine zv_v (rest := []) F (ih.2.2.1 M125 ⟨hI, hW⟩ (by omega) (by omega) (by omega) (by omega) hL (by omega)) cs_X12_152 (T := TX12) (N := 44) (ci := 12) rfl gs_131 (by omega) (by decide) rfl rfl rfl (Nat.le_of_ble_eq_true rfl) dX12_readUnit_22 (fun M127 hI p128 => ?_)
      obtain ⟨hI, hW⟩ := hI
      obtain ⟨fp128, xp128, yp128⟩ := p128
      have hF := hF.call fp128 (by decide)
      have tM127_133_1 : M127 133 1 = M125 133 1 := fp128.fr (by decide) (by decide)
      obtain ⟨hL, xp128⟩ := xp128
      refine z_aload_n F dX12_readUnit_25 rfl (q := 0) rfl ?_
      refine z_bipush F dX12_readUnit_26 (by decide +kernel) ?_
      refine zv_v (rest := []) F (kp_X12_laysStep l M127 ⟨hI, hW⟩ 18 (by omega) (by omega) (by omega) hL (by omega)) cs_X12_149 (T := TX12) (N := 44) (ci := 12) rfl gs_131 (by omega) (by decide) rfl rfl rfl (Nat.le_of_ble_eq_true rfl) dX12_readUnit_28 (fun M129 hI p130 => ?_)
      obtain ⟨hI, hW⟩ := hI
      obtain ⟨fp130, xp130, yp130⟩ := p130
      have hF := hF.call fp130 (by decide)
      have tM129_131_7 : M129 131 7 = M127 131 7 := fp130.at (by decide)
      have tM129_131_8 : M129 131 8 = M127 131 8 := fp130.at (by decide)
      have tM129_131_9 : M129 131 9 = M127 131 9 := fp130.at (by decide)
      have tM129_131_10 : M129 131 10 = M127 131 10 := fp130.at (by decide)
      have tM129_131_12 : M129 131 12 = M127 131 12 := fp130.at (by decide)
      have tM129_131_16 : M129 131 16 = M127 131 16 := fp130.at (by decide)
      have tM129_133_1 : M129 133 1 = M127 133 1 := fp130.fr (by decide) (by decide)
      obtain ⟨hL, xp130⟩ := xp130
      refine z_aload_n F dX12_readUnit_31 rfl (q := 0) rfl ?_
      refine z_dup F dX12_readUnit_32 rfl ?_
      refine gf_X12_141 F hI gs_131 rfl bd_131_16 dX12_readUnit_33 (fun v131 ev131 av131 bv131 => ?_)
      refine z_iconst F dX12_readUnit_36 ?_
      refine z_isub F dX12_readUnit_37 ?_
      refine z_wrap (fun v132 rv132 wv132 => ?_)
      refine pf_X12_141 F hI gs_131 rfl bd_131_16 rfl rfl dX12_readUnit_38 (by omega) (by omega) (fun M134 hI sf133 f133 => ?_)
      have tM134_131_7 : M134 131 7 = M129 131 7 := f133 131 7 (fun q => absurd q.2 (by decide))
      have tM134_131_8 : M134 131 8 = M129 131 8 := f133 131 8 (fun q => absurd q.2 (by decide))
      have tM134_131_9 : M134 131 9 = M129 131 9 := f133 131 9 (fun q => absurd q.2 (by decide))
      have tM134_131_10 : M134 131 10 = M129 131 10 := f133 131 10 (fun q => absurd q.2 (by decide))
      have tM134_131_12 : M134 131 12 = M129 131 12 := f133 131 12 (fun q => absurd q.2 (by decide))
      have tM134_133_6 : M134 133 6 = M129 133 6 := f133 133 6 (fun q => absurd q.1 (by decide))
      have tM134_133_1 : M134 133 1 = M129 133 1 := f133 133 1 (fun q => absurd q.1 (by decide))
      have hq9 := wl_ws f133 (by decide)
      have hL := hq9.2 hL
      have cM134 := hq9.1
      clear hq9
      have hF := hF.wrf f133 (by decide) (by decide)
      have hW : WFk M134 := hW.site f133 (by decide)
      refine z_goto (tgt := 155) F dX12_readUnit_41 (by decide +kernel) ?_
      have q136 := yp126 (by omega) (by omega)
      have y135 := yp128
      rw [show M125 131 16 = M 131 16 + 1 from by omega, ← q136] at y135
      exact hret _ 155 _ ⟨hI, hW⟩ ⟨hF, ⟨hL, by omega⟩, (by rw [absR_16 f133, yp130]; exact r_not (wz_t yp5 (by omega)) y135)⟩ dX12_readUnit_155
  · exact hret _ 7 _ ⟨hI, hW⟩ ⟨hF, ⟨hL, by omega⟩, (rdE_f (by rw [vR_fl]; omega))⟩ dX12_readUnit_7
set_option maxHeartbeats 4000000 in
set_option maxRecDepth 4000 in
theorem kp_X12_readSum (l : Launch) (nr : Nat) (ih : RdR l nr) : ∀ (M : Mem) (hJ : Iw M) (hp0 : 0 ≤ M 131 9 ∧ M 131 9 ≤ M 131 8 ∧ M 131 8 ≤ M 131 7 ∧ M 131 7 ≤ 900 ∧ (M 131 10 = 0 ∨ M 131 9 < M 131 8)) (hp1 : 0 ≤ M 131 16 ∧ (M 131 16 ≤ 6 ∨ M 131 16 = 7 ∧ ¬ M 131 12 = 0)) (hp2 : M 133 6 ≤ M 131 9) (hp3 : ¬ M 131 12 = 0 ∨ 0 ≤ Cu M ∧ Cu M + 2 * (6 - M 131 16) + 3 ≤ 64) (hp4 : Wl M) (hmu : (7 - M 131 16) * 8 + 3 < ((nr + 1 : Nat) : Int)), CV l yX12_readSum cX12_readSum 2 none (14 + (nr + 1)) (fun ad => [.ref (ad 131)]) M (fun M' => Fr [131, 133] M M' ∧ (Wl M' ∧ 0 ≤ M' 131 9 ∧ M' 131 9 ≤ M' 131 8 ∧ M' 131 8 ≤ M' 131 7 ∧ M' 131 7 ≤ 900 ∧ (M' 131 10 = 0 ∨ M' 131 9 < M' 131 8) ∧ M' 131 7 = M 131 7 ∧ M' 131 16 = M 131 16 ∧ M 131 9 ≤ M' 131 9 ∧ M' 133 6 + M 131 9 ≤ M 133 6 + M' 131 9 ∧ (M' 131 12 = 0 → M 131 12 = 0 ∧ Cu M' = Cu M + 1) ∧ M' 133 1 = M 133 1) ∧ (RdE 3 (M 131 16) (absR M) (absR M'))) := by
  intro M hJ hp0 hp1 hp2 hp3 hp4 hmu
  obtain ⟨hI, hW⟩ := hJ
  have hF : Fr [131, 133] M M := Fr.rf
  refine en_v (by decide +kernel) (fun ad => by exact Nat.le_of_ble_eq_true rfl) (fun D cy ad A p e s m args below meth c Q F hret => ?_)
  refine z_eq (ls' := [(0, .ref (ad 131))]) rfl rfl rfl ?_
  have hL := hp4
  refine z_aload_n F dX12_readSum_0 rfl (q := 0) rfl ?_
  refine zv_v (rest := []) F (ih.2.2.2.2.1 M ⟨hI, hW⟩ (by omega) (by omega) (by omega) (by omega) hL (by omega)) cs_X12_174 (T := TX12) (N := 44) (ci := 12) rfl gs_131 (by omega) (by decide) rfl rfl rfl (Nat.le_of_ble_eq_true rfl) dX12_readSum_1 (fun M1 hI p2 => ?_)
  obtain ⟨hI, hW⟩ := hI
  obtain ⟨fp2, xp2, yp2⟩ := p2
  have hF := hF.call fp2 (by decide)
  have tM1_133_1 : M1 133 1 = M 133 1 := fp2.fr (by decide) (by decide)
  obtain ⟨hL, xp2⟩ := xp2
  refine z_loc [0] (ls' := [(0, .ref (ad 131))]) rfl ?_
  suffices key4 : ∀ (n : Nat) (M3 : Mem), Inv M3 → WFk M3 → Fr [131, 133] M M3 → (0 ≤ M3 131 9 ∧ M3 131 9 ≤ M3 131 8 ∧ M3 131 8 ≤ M3 131 7 ∧ M3 131 7 ≤ 900 ∧ (M3 131 10 = 0 ∨ M3 131 9 < M3 131 8)) → (M3 131 7 = M 131 7 ∧ M3 131 16 = M 131 16 ∧ M 131 9 ≤ M3 131 9 ∧ M3 133 6 + M 131 9 ≤ M 133 6 + M3 131 9 ∧ (M3 131 12 = 0 → M 131 12 = 0 ∧ Cu M3 = Cu M + 1) ∧ M3 133 1 = M 133 1) → (Wl M3) → (LpI 3 8 (M 131 16) (absR M) (absR M3)) → 900 - M3 131 9 < (n : Int) → Z D cy ad p l e (RMh (14 + (nr + 1))) s m args below meth c A 2 0 0 Q 4 [(0, .ref (ad 131))] [] M3 from key4 901 M1 hI hW hF (by omega) (by omega) hL (lp_i3 yp2) (by omega)
  intro n4
  induction n4 with
  | zero => intro M3 hI hW hF i4_0 i4_1 i4_2 i4_3 hn4; exfalso; omega
  | succ n4 ih4 =>
    intro M3 hI hW hF i4_0 i4_1 i4_2 i4_3 hn4
    have hL := i4_2
    refine z_aload_n F dX12_readSum_4 rfl (q := 0) rfl ?_
    refine z_bipush F dX12_readSum_5 (by decide +kernel) ?_
    refine zv_i (rest := []) F (kp_X12_isSign l M3 ⟨hI, hW⟩ 43 (by omega) (by omega)) cs_X12_162 (T := TX12) (N := 44) (ci := 12) rfl gs_131 (by omega) (by decide) rfl rfl rfl (Nat.le_of_ble_eq_true rfl) dX12_readSum_7 (fun v4 M5 rv4 hI p6 => ?_)
    obtain ⟨hI, hW⟩ := hI
    obtain ⟨⟨av4, bv4⟩, rfl, xp6, yp6⟩ := p6
    refine z_if_ne (tgt := 22) F dX12_readSum_10 (by decide +kernel) (by omega) (fun c7 => ?_) (fun c7 => ?_)
    · refine z_aload_n F dX12_readSum_22 rfl (q := 0) rfl ?_
      refine gf_X12_88 F hI gs_131 rfl bd_131_10 dX12_readSum_23 (fun v8 ev8 av8 bv8 => ?_)
      refine z_istore_n F dX12_readSum_26 rfl (by decide) (ls' := [(1, ii v8), (0, .ref (ad 131))]) rfl ?_
      refine z_aload_n F dX12_readSum_27 rfl (q := 1) rfl ?_
      refine zv_v (rest := []) F (kp_X12_readsOn l M3 ⟨hI, hW⟩ (by omega)) cs_X12_127 (T := TX12) (N := 44) (ci := 12) rfl gs_131 (by omega) (by decide) rfl rfl rfl (Nat.le_of_ble_eq_true rfl) dX12_readSum_28 (fun M9 hI p10 => ?_)
      obtain ⟨hI, hW⟩ := hI
      obtain ⟨fp10, xp10, yp10⟩ := p10
      have hF := hF.call fp10 (by decide)
      have tM9_133_6 : M9 133 6 = M3 133 6 := fp10.at (by decide)
      have tM9_133_1 : M9 133 1 = M3 133 1 := fp10.at (by decide)
      have hq9 := wl_fr fp10 (by decide)
      have hL := hq9.2 hL
      have cM9 := hq9.1
      clear hq9
      refine z_aload_n F dX12_readSum_31 rfl (q := 1) rfl ?_
      refine zv_v (rest := []) F (ih.2.2.2.2.1 M9 ⟨hI, hW⟩ (by omega) (by omega) (by omega) (by omega) hL (by omega)) cs_X12_174 (T := TX12) (N := 44) (ci := 12) rfl gs_131 (by omega) (by decide) rfl rfl rfl (Nat.le_of_ble_eq_true rfl) dX12_readSum_32 (fun M11 hI p12 => ?_)
      obtain ⟨hI, hW⟩ := hI
      obtain ⟨fp12, xp12, yp12⟩ := p12
      have hF := hF.call fp12 (by decide)
      have tM11_133_1 : M11 133 1 = M9 133 1 := fp12.fr (by decide) (by decide)
      obtain ⟨hL, xp12⟩ := xp12
      refine z_aload_n F dX12_readSum_35 rfl (q := 1) rfl ?_
      refine z_iload_n F dX12_readSum_36 rfl (q := 0) rfl ?_
      refine z_bipush F dX12_readSum_37 (by decide +kernel) ?_
      refine z_icmp_ne (tgt := 47) F dX12_readSum_39 (by decide +kernel) (by omega) (by omega) (fun c13 => ?_) (fun c13 => ?_)
      · refine z_bipush F dX12_readSum_47 (by decide +kernel) ?_
        refine zv_v (rest := []) F (kp_X12_laysStep l M11 ⟨hI, hW⟩ 11 (by omega) (by omega) (by omega) hL (by omega)) cs_X12_149 (T := TX12) (N := 44) (ci := 12) rfl gs_131 (by omega) (by decide) rfl rfl rfl (Nat.le_of_ble_eq_true rfl) dX12_readSum_49 (fun M14 hI p15 => ?_)
        obtain ⟨hI, hW⟩ := hI
        obtain ⟨fp15, xp15, yp15⟩ := p15
        have hF := hF.call fp15 (by decide)
        have tM14_131_7 : M14 131 7 = M11 131 7 := fp15.at (by decide)
        have tM14_131_8 : M14 131 8 = M11 131 8 := fp15.at (by decide)
        have tM14_131_9 : M14 131 9 = M11 131 9 := fp15.at (by decide)
        have tM14_131_10 : M14 131 10 = M11 131 10 := fp15.at (by decide)
        have tM14_131_12 : M14 131 12 = M11 131 12 := fp15.at (by decide)
        have tM14_131_16 : M14 131 16 = M11 131 16 := fp15.at (by decide)
        have tM14_133_1 : M14 133 1 = M11 133 1 := fp15.fr (by decide) (by decide)
        obtain ⟨hL, xp15⟩ := xp15
        refine z_goto (tgt := 4) F dX12_readSum_52 (by decide +kernel) ?_
        refine z_loc [1] (ls' := [(0, .ref (ad 131))]) rfl ?_
        have q16 := yp10 (by omega)
        have y17 := yp12
        rw [show M9 131 16 = M 131 16 from by omega, ← q16] at y17
        exact ih4 M14 hI hW hF (by omega) (by omega) hL (by rw [yp15]; exact lp_b3 i4_3 ((by rw [wz_t yp6 (by omega)]; rfl)) y17) (by omega)
      · refine z_bipush F dX12_readSum_42 (by decide +kernel) ?_
        refine z_goto (tgt := 49) F dX12_readSum_44 (by decide +kernel) ?_
        refine zv_v (rest := []) F (kp_X12_laysStep l M11 ⟨hI, hW⟩ 10 (by omega) (by omega) (by omega) hL (by omega)) cs_X12_149 (T := TX12) (N := 44) (ci := 12) rfl gs_131 (by omega) (by decide) rfl rfl rfl (Nat.le_of_ble_eq_true rfl) dX12_readSum_49 (fun M18 hI p19 => ?_)
        obtain ⟨hI, hW⟩ := hI
        obtain ⟨fp19, xp19, yp19⟩ := p19
        have hF := hF.call fp19 (by decide)
        have tM18_131_7 : M18 131 7 = M11 131 7 := fp19.at (by decide)
        have tM18_131_8 : M18 131 8 = M11 131 8 := fp19.at (by decide)
        have tM18_131_9 : M18 131 9 = M11 131 9 := fp19.at (by decide)
        have tM18_131_10 : M18 131 10 = M11 131 10 := fp19.at (by decide)
        have tM18_131_12 : M18 131 12 = M11 131 12 := fp19.at (by decide)
        have tM18_131_16 : M18 131 16 = M11 131 16 := fp19.at (by decide)
        have tM18_133_1 : M18 133 1 = M11 133 1 := fp19.fr (by decide) (by decide)
        obtain ⟨hL, xp19⟩ := xp19
        refine z_goto (tgt := 4) F dX12_readSum_52 (by decide +kernel) ?_
        refine z_loc [1] (ls' := [(0, .ref (ad 131))]) rfl ?_
        have q20 := yp10 (by omega)
        have y21 := yp12
        rw [show M9 131 16 = M 131 16 from by omega, ← q20] at y21
        exact ih4 M18 hI hW hF (by omega) (by omega) hL (by rw [yp19]; exact lp_b3 i4_3 ((by rw [wz_t yp6 (by omega)]; rfl)) y21) (by omega)
    · refine z_aload_n F dX12_readSum_13 rfl (q := 0) rfl ?_
      refine z_bipush F dX12_readSum_14 (by decide +kernel) ?_
      refine zv_i (rest := []) F (kp_X12_isSign l M3 ⟨hI, hW⟩ 45 (by omega) (by omega)) cs_X12_162 (T := TX12) (N := 44) (ci := 12) rfl gs_131 (by omega) (by decide) rfl rfl rfl (Nat.le_of_ble_eq_true rfl) dX12_readSum_16 (fun v22 M23 rv22 hI p24 => ?_)
      obtain ⟨hI, hW⟩ := hI
      obtain ⟨⟨av22, bv22⟩, rfl, xp24, yp24⟩ := p24
      refine z_if_eq (tgt := 55) F dX12_readSum_19 (by decide +kernel) (by omega) (fun c25 => ?_) (fun c25 => ?_)
      · exact hret _ 55 _ ⟨hI, hW⟩ ⟨hF, ⟨hL, by omega⟩, (lp_e3 i4_3 (by rw [wz_f yp6 (by omega), wz_f yp24 (by omega)]; rfl))⟩ dX12_readSum_55
      · refine z_aload_n F dX12_readSum_22 rfl (q := 0) rfl ?_
        refine gf_X12_88 F hI gs_131 rfl bd_131_10 dX12_readSum_23 (fun v26 ev26 av26 bv26 => ?_)
        refine z_istore_n F dX12_readSum_26 rfl (by decide) (ls' := [(1, ii v26), (0, .ref (ad 131))]) rfl ?_
        refine z_aload_n F dX12_readSum_27 rfl (q := 1) rfl ?_
        refine zv_v (rest := []) F (kp_X12_readsOn l M3 ⟨hI, hW⟩ (by omega)) cs_X12_127 (T := TX12) (N := 44) (ci := 12) rfl gs_131 (by omega) (by decide) rfl rfl rfl (Nat.le_of_ble_eq_true rfl) dX12_readSum_28 (fun M27 hI p28 => ?_)
        obtain ⟨hI, hW⟩ := hI
        obtain ⟨fp28, xp28, yp28⟩ := p28
        have hF := hF.call fp28 (by decide)
        have tM27_133_6 : M27 133 6 = M3 133 6 := fp28.at (by decide)
        have tM27_133_1 : M27 133 1 = M3 133 1 := fp28.at (by decide)
        have hq9 := wl_fr fp28 (by decide)
        have hL := hq9.2 hL
        have cM27 := hq9.1
        clear hq9
        refine z_aload_n F dX12_readSum_31 rfl (q := 1) rfl ?_
        refine zv_v (rest := []) F (ih.2.2.2.2.1 M27 ⟨hI, hW⟩ (by omega) (by omega) (by omega) (by omega) hL (by omega)) cs_X12_174 (T := TX12) (N := 44) (ci := 12) rfl gs_131 (by omega) (by decide) rfl rfl rfl (Nat.le_of_ble_eq_true rfl) dX12_readSum_32 (fun M29 hI p30 => ?_)
        obtain ⟨hI, hW⟩ := hI
        obtain ⟨fp30, xp30, yp30⟩ := p30
        have hF := hF.call fp30 (by decide)
        have tM29_133_1 : M29 133 1 = M27 133 1 := fp30.fr (by decide) (by decide)
        obtain ⟨hL, xp30⟩ := xp30
        refine z_aload_n F dX12_readSum_35 rfl (q := 1) rfl ?_
        refine z_iload_n F dX12_readSum_36 rfl (q := 0) rfl ?_
        refine z_bipush F dX12_readSum_37 (by decide +kernel) ?_
        refine z_icmp_ne (tgt := 47) F dX12_readSum_39 (by decide +kernel) (by omega) (by omega) (fun c31 => ?_) (fun c31 => ?_)
        · refine z_bipush F dX12_readSum_47 (by decide +kernel) ?_
          refine zv_v (rest := []) F (kp_X12_laysStep l M29 ⟨hI, hW⟩ 11 (by omega) (by omega) (by omega) hL (by omega)) cs_X12_149 (T := TX12) (N := 44) (ci := 12) rfl gs_131 (by omega) (by decide) rfl rfl rfl (Nat.le_of_ble_eq_true rfl) dX12_readSum_49 (fun M32 hI p33 => ?_)
          obtain ⟨hI, hW⟩ := hI
          obtain ⟨fp33, xp33, yp33⟩ := p33
          have hF := hF.call fp33 (by decide)
          have tM32_131_7 : M32 131 7 = M29 131 7 := fp33.at (by decide)
          have tM32_131_8 : M32 131 8 = M29 131 8 := fp33.at (by decide)
          have tM32_131_9 : M32 131 9 = M29 131 9 := fp33.at (by decide)
          have tM32_131_10 : M32 131 10 = M29 131 10 := fp33.at (by decide)
          have tM32_131_12 : M32 131 12 = M29 131 12 := fp33.at (by decide)
          have tM32_131_16 : M32 131 16 = M29 131 16 := fp33.at (by decide)
          have tM32_133_1 : M32 133 1 = M29 133 1 := fp33.fr (by decide) (by decide)
          obtain ⟨hL, xp33⟩ := xp33
          refine z_goto (tgt := 4) F dX12_readSum_52 (by decide +kernel) ?_
          refine z_loc [1] (ls' := [(0, .ref (ad 131))]) rfl ?_
          have q34 := yp28 (by omega)
          have y35 := yp30
          rw [show M27 131 16 = M 131 16 from by omega, ← q34] at y35
          exact ih4 M32 hI hW hF (by omega) (by omega) hL (by rw [yp33]; exact lp_b3 i4_3 ((by rw [wz_f yp6 (by omega), wz_t yp24 (by omega)]; rfl)) y35) (by omega)
        · refine z_bipush F dX12_readSum_42 (by decide +kernel) ?_
          refine z_goto (tgt := 49) F dX12_readSum_44 (by decide +kernel) ?_
          refine zv_v (rest := []) F (kp_X12_laysStep l M29 ⟨hI, hW⟩ 10 (by omega) (by omega) (by omega) hL (by omega)) cs_X12_149 (T := TX12) (N := 44) (ci := 12) rfl gs_131 (by omega) (by decide) rfl rfl rfl (Nat.le_of_ble_eq_true rfl) dX12_readSum_49 (fun M36 hI p37 => ?_)
          obtain ⟨hI, hW⟩ := hI
          obtain ⟨fp37, xp37, yp37⟩ := p37
          have hF := hF.call fp37 (by decide)
          have tM36_131_7 : M36 131 7 = M29 131 7 := fp37.at (by decide)
          have tM36_131_8 : M36 131 8 = M29 131 8 := fp37.at (by decide)
          have tM36_131_9 : M36 131 9 = M29 131 9 := fp37.at (by decide)
          have tM36_131_10 : M36 131 10 = M29 131 10 := fp37.at (by decide)
          have tM36_131_12 : M36 131 12 = M29 131 12 := fp37.at (by decide)
          have tM36_131_16 : M36 131 16 = M29 131 16 := fp37.at (by decide)
          have tM36_133_1 : M36 133 1 = M29 133 1 := fp37.fr (by decide) (by decide)
          obtain ⟨hL, xp37⟩ := xp37
          refine z_goto (tgt := 4) F dX12_readSum_52 (by decide +kernel) ?_
          refine z_loc [1] (ls' := [(0, .ref (ad 131))]) rfl ?_
          have q38 := yp28 (by omega)
          have y39 := yp30
          rw [show M27 131 16 = M 131 16 from by omega, ← q38] at y39
          exact ih4 M36 hI hW hF (by omega) (by omega) hL (by rw [yp37]; exact lp_b3 i4_3 ((by rw [wz_f yp6 (by omega), wz_t yp24 (by omega)]; rfl)) y39) (by omega)
