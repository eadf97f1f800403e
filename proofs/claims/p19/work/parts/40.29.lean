theorem dX6_beginLine_0 : decode cX6_beginLine 0 = .ok (.iload_n 1, 1) := by decide +kernel
theorem dX6_beginLine_1 : decode cX6_beginLine 1 = .ok (.iload_n 2, 1) := by decide +kernel
theorem dX6_beginLine_10 : decode cX6_beginLine 10 = .ok (.goto 7, 3) := by decide +kernel
theorem dX6_beginLine_13 : decode cX6_beginLine 13 = .ok (.aload_n 0, 1) := by decide +kernel
theorem dX6_beginLine_14 : decode cX6_beginLine 14 = .ok (.invokevirtual 42, 3) := by decide +kernel
theorem dX6_beginLine_17 : decode cX6_beginLine 17 = .ok (.return_, 1) := by decide +kernel
theorem dX6_beginLine_2 : decode cX6_beginLine 2 = .ok (.if_icmp .lt 11, 3) := by decide +kernel
theorem dX6_beginLine_5 : decode cX6_beginLine 5 = .ok (.aload_n 0, 1) := by decide +kernel
theorem dX6_beginLine_6 : decode cX6_beginLine 6 = .ok (.iconst 4, 1) := by decide +kernel
theorem dX6_beginLine_7 : decode cX6_beginLine 7 = .ok (.invokevirtual 82, 3) := by decide +kernel
theorem dX6_needWord_0 : decode cX6_needWord 0 = .ok (.aload_n 0, 1) := by decide +kernel
theorem dX6_needWord_1 : decode cX6_needWord 1 = .ok (.aload_n 1, 1) := by decide +kernel
theorem dX6_needWord_12 : decode cX6_needWord 12 = .ok (.goto 7, 3) := by decide +kernel
theorem dX6_needWord_15 : decode cX6_needWord 15 = .ok (.aload_n 0, 1) := by decide +kernel
theorem dX6_needWord_16 : decode cX6_needWord 16 = .ok (.invokevirtual 90, 3) := by decide +kernel
theorem dX6_needWord_19 : decode cX6_needWord 19 = .ok (.return_, 1) := by decide +kernel
theorem dX6_needWord_2 : decode cX6_needWord 2 = .ok (.invokevirtual 86, 3) := by decide +kernel
theorem dX6_needWord_5 : decode cX6_needWord 5 = .ok (.ifCond .eq 10, 3) := by decide +kernel
theorem dX6_needWord_8 : decode cX6_needWord 8 = .ok (.aload_n 0, 1) := by decide +kernel
theorem dX6_needWord_9 : decode cX6_needWord 9 = .ok (.invokevirtual 42, 3) := by decide +kernel
theorem dX6_readZero_0 : decode cX6_readZero 0 = .ok (.aload_n 0, 1) := by decide +kernel
theorem dX6_readZero_1 : decode cX6_readZero 1 = .ok (.ldc 223, 2) := by decide +kernel
theorem dX6_readZero_10 : decode cX6_readZero 10 = .ok (.getfield 12, 3) := by decide +kernel
theorem dX6_readZero_13 : decode cX6_readZero 13 = .ok (.getfield 152, 3) := by decide +kernel
theorem dX6_readZero_16 : decode cX6_readZero 16 = .ok (.iconst 1, 1) := by decide +kernel
theorem dX6_readZero_17 : decode cX6_readZero 17 = .ok (.putfield 225, 3) := by decide +kernel
theorem dX6_readZero_20 : decode cX6_readZero 20 = .ok (.goto 76, 3) := by decide +kernel
theorem dX6_readZero_23 : decode cX6_readZero 23 = .ok (.aload_n 0, 1) := by decide +kernel
theorem dX6_readZero_24 : decode cX6_readZero 24 = .ok (.ldc 228, 2) := by decide +kernel
theorem dX6_readZero_26 : decode cX6_readZero 26 = .ok (.invokevirtual 144, 3) := by decide +kernel
theorem dX6_readZero_29 : decode cX6_readZero 29 = .ok (.ifCond .eq 17, 3) := by decide +kernel
theorem dX6_readZero_3 : decode cX6_readZero 3 = .ok (.invokevirtual 144, 3) := by decide +kernel
theorem dX6_readZero_32 : decode cX6_readZero 32 = .ok (.aload_n 0, 1) := by decide +kernel
theorem dX6_readZero_33 : decode cX6_readZero 33 = .ok (.getfield 12, 3) := by decide +kernel
theorem dX6_readZero_36 : decode cX6_readZero 36 = .ok (.getfield 152, 3) := by decide +kernel
theorem dX6_readZero_39 : decode cX6_readZero 39 = .ok (.iconst 2, 1) := by decide +kernel
theorem dX6_readZero_40 : decode cX6_readZero 40 = .ok (.putfield 225, 3) := by decide +kernel
theorem dX6_readZero_43 : decode cX6_readZero 43 = .ok (.goto 53, 3) := by decide +kernel
theorem dX6_readZero_46 : decode cX6_readZero 46 = .ok (.aload_n 0, 1) := by decide +kernel
theorem dX6_readZero_47 : decode cX6_readZero 47 = .ok (.ldc 230, 2) := by decide +kernel
theorem dX6_readZero_49 : decode cX6_readZero 49 = .ok (.invokevirtual 144, 3) := by decide +kernel
theorem dX6_readZero_52 : decode cX6_readZero 52 = .ok (.ifCond .eq 17, 3) := by decide +kernel
theorem dX6_readZero_55 : decode cX6_readZero 55 = .ok (.aload_n 0, 1) := by decide +kernel
theorem dX6_readZero_56 : decode cX6_readZero 56 = .ok (.getfield 12, 3) := by decide +kernel
theorem dX6_readZero_59 : decode cX6_readZero 59 = .ok (.getfield 152, 3) := by decide +kernel
theorem dX6_readZero_6 : decode cX6_readZero 6 = .ok (.ifCond .eq 17, 3) := by decide +kernel
theorem dX6_readZero_62 : decode cX6_readZero 62 = .ok (.iconst 3, 1) := by decide +kernel
theorem dX6_readZero_63 : decode cX6_readZero 63 = .ok (.putfield 225, 3) := by decide +kernel
theorem dX6_readZero_66 : decode cX6_readZero 66 = .ok (.goto 30, 3) := by decide +kernel
theorem dX6_readZero_69 : decode cX6_readZero 69 = .ok (.aload_n 0, 1) := by decide +kernel
theorem dX6_readZero_70 : decode cX6_readZero 70 = .ok (.ldc 232, 2) := by decide +kernel
theorem dX6_readZero_72 : decode cX6_readZero 72 = .ok (.invokevirtual 144, 3) := by decide +kernel
theorem dX6_readZero_75 : decode cX6_readZero 75 = .ok (.ifCond .eq 17, 3) := by decide +kernel
theorem dX6_readZero_78 : decode cX6_readZero 78 = .ok (.aload_n 0, 1) := by decide +kernel
theorem dX6_readZero_79 : decode cX6_readZero 79 = .ok (.getfield 12, 3) := by decide +kernel
theorem dX6_readZero_82 : decode cX6_readZero 82 = .ok (.getfield 152, 3) := by decide +kernel
theorem dX6_readZero_85 : decode cX6_readZero 85 = .ok (.iconst 0, 1) := by decide +kernel
theorem dX6_readZero_86 : decode cX6_readZero 86 = .ok (.putfield 225, 3) := by decide +kernel
theorem dX6_readZero_89 : decode cX6_readZero 89 = .ok (.goto 7, 3) := by decide +kernel
theorem dX6_readZero_9 : decode cX6_readZero 9 = .ok (.aload_n 0, 1) := by decide +kernel
theorem dX6_readZero_92 : decode cX6_readZero 92 = .ok (.aload_n 0, 1) := by decide +kernel
theorem dX6_readZero_93 : decode cX6_readZero 93 = .ok (.invokevirtual 90, 3) := by decide +kernel
theorem dX6_readZero_96 : decode cX6_readZero 96 = .ok (.return_, 1) := by decide +kernel
theorem dX6_takeNumberBut_0 : decode cX6_takeNumberBut 0 = .ok (.aload_n 0, 1) := by decide +kernel
theorem dX6_takeNumberBut_1 : decode cX6_takeNumberBut 1 = .ok (.getfield 36, 3) := by decide +kernel
theorem dX6_takeNumberBut_11 : decode cX6_takeNumberBut 11 = .ok (.iconst 2, 1) := by decide +kernel
theorem dX6_takeNumberBut_12 : decode cX6_takeNumberBut 12 = .ok (.if_icmp .eq 9, 3) := by decide +kernel
theorem dX6_takeNumberBut_15 : decode cX6_takeNumberBut 15 = .ok (.aload_n 0, 1) := by decide +kernel
theorem dX6_takeNumberBut_16 : decode cX6_takeNumberBut 16 = .ok (.invokevirtual 90, 3) := by decide +kernel
theorem dX6_takeNumberBut_19 : decode cX6_takeNumberBut 19 = .ok (.iconst (-1), 1) := by decide +kernel
theorem dX6_takeNumberBut_20 : decode cX6_takeNumberBut 20 = .ok (.ireturn, 1) := by decide +kernel
theorem dX6_takeNumberBut_21 : decode cX6_takeNumberBut 21 = .ok (.aload_n 0, 1) := by decide +kernel
theorem dX6_takeNumberBut_22 : decode cX6_takeNumberBut 22 = .ok (.getfield 60, 3) := by decide +kernel
theorem dX6_takeNumberBut_25 : decode cX6_takeNumberBut 25 = .ok (.iload_n 1, 1) := by decide +kernel
theorem dX6_takeNumberBut_26 : decode cX6_takeNumberBut 26 = .ok (.if_icmp .lt 22, 3) := by decide +kernel
theorem dX6_takeNumberBut_29 : decode cX6_takeNumberBut 29 = .ok (.aload_n 0, 1) := by decide +kernel
theorem dX6_takeNumberBut_30 : decode cX6_takeNumberBut 30 = .ok (.getfield 60, 3) := by decide +kernel
theorem dX6_takeNumberBut_33 : decode cX6_takeNumberBut 33 = .ok (.iload_n 2, 1) := by decide +kernel
theorem dX6_takeNumberBut_34 : decode cX6_takeNumberBut 34 = .ok (.if_icmp .gt 14, 3) := by decide +kernel
theorem dX6_takeNumberBut_37 : decode cX6_takeNumberBut 37 = .ok (.iload_n 3, 1) := by decide +kernel
theorem dX6_takeNumberBut_38 : decode cX6_takeNumberBut 38 = .ok (.aload_n 0, 1) := by decide +kernel
theorem dX6_takeNumberBut_39 : decode cX6_takeNumberBut 39 = .ok (.getfield 60, 3) := by decide +kernel
theorem dX6_takeNumberBut_4 : decode cX6_takeNumberBut 4 = .ok (.ifCond .ne 11, 3) := by decide +kernel
theorem dX6_takeNumberBut_42 : decode cX6_takeNumberBut 42 = .ok (.invokestatic 100, 3) := by decide +kernel
theorem dX6_takeNumberBut_45 : decode cX6_takeNumberBut 45 = .ok (.ifCond .eq 10, 3) := by decide +kernel
theorem dX6_takeNumberBut_48 : decode cX6_takeNumberBut 48 = .ok (.aload_n 0, 1) := by decide +kernel
theorem dX6_takeNumberBut_49 : decode cX6_takeNumberBut 49 = .ok (.iconst 3, 1) := by decide +kernel
theorem dX6_takeNumberBut_50 : decode cX6_takeNumberBut 50 = .ok (.invokevirtual 82, 3) := by decide +kernel
theorem dX6_takeNumberBut_53 : decode cX6_takeNumberBut 53 = .ok (.iconst (-1), 1) := by decide +kernel
theorem dX6_takeNumberBut_54 : decode cX6_takeNumberBut 54 = .ok (.ireturn, 1) := by decide +kernel
theorem dX6_takeNumberBut_55 : decode cX6_takeNumberBut 55 = .ok (.aload_n 0, 1) := by decide +kernel
theorem dX6_takeNumberBut_56 : decode cX6_takeNumberBut 56 = .ok (.getfield 60, 3) := by decide +kernel
theorem dX6_takeNumberBut_59 : decode cX6_takeNumberBut 59 = .ok (.istore 4, 2) := by decide +kernel
theorem dX6_takeNumberBut_61 : decode cX6_takeNumberBut 61 = .ok (.aload_n 0, 1) := by decide +kernel
theorem dX6_takeNumberBut_62 : decode cX6_takeNumberBut 62 = .ok (.invokevirtual 42, 3) := by decide +kernel
theorem dX6_takeNumberBut_65 : decode cX6_takeNumberBut 65 = .ok (.iload 4, 2) := by decide +kernel
theorem dX6_takeNumberBut_67 : decode cX6_takeNumberBut 67 = .ok (.ireturn, 1) := by decide +kernel
theorem dX6_takeNumberBut_7 : decode cX6_takeNumberBut 7 = .ok (.aload_n 0, 1) := by decide +kernel
theorem dX6_takeNumberBut_8 : decode cX6_takeNumberBut 8 = .ok (.getfield 48, 3) := by decide +kernel
theorem dX6_takeNumber_0 : decode cX6_takeNumber 0 = .ok (.aload_n 0, 1) := by decide +kernel
theorem dX6_takeNumber_1 : decode cX6_takeNumber 1 = .ok (.iload_n 1, 1) := by decide +kernel
theorem dX6_takeNumber_2 : decode cX6_takeNumber 2 = .ok (.iload_n 2, 1) := by decide +kernel
theorem dX6_takeNumber_3 : decode cX6_takeNumber 3 = .ok (.iconst 0, 1) := by decide +kernel
theorem dX6_takeNumber_4 : decode cX6_takeNumber 4 = .ok (.invokevirtual 97, 3) := by decide +kernel
theorem dX6_takeNumber_7 : decode cX6_takeNumber 7 = .ok (.ireturn, 1) := by decide +kernel
set_option maxHeartbeats 4000000 in
set_option maxRecDepth 4000 in
theorem kp_X6_readZero_18 (l : Launch) (M : Mem) (hJ : Iw M) (hp0 : M 18 6 ≤ M 18 5 ∧ M 18 5 ≤ M 18 4 ∧ M 18 7 ≤ 4 * (M 18 5 - M 18 6)) : CV l yX6_readZero cX6_readZero 1 none 8 (fun ad => [.ref (ad 18)]) M (fun M' => Fr [18, 31] M M' ∧ (M' 18 4 = M 18 4 ∧ M' 18 6 ≤ M' 18 5 ∧ M' 18 5 ≤ M' 18 4 ∧ M' 18 7 ≤ 4 * (M' 18 5 - M' 18 6) ∧ M 18 6 ≤ M' 18 6) ∧ (tC M' = fz (zeroF (absC M)) (dC M))) := by
  obtain ⟨hI, hW⟩ := hJ
  have hF : Fr [18, 31] M M := Fr.rf
  refine en_v (by decide +kernel) (fun ad => by exact Nat.le_of_ble_eq_true rfl) (fun D cy ad A p e s m args below meth c Q F hret => ?_)
  refine z_eq (ls' := [(0, .ref (ad 18))]) rfl rfl rfl ?_
  refine z_aload_n F dX6_readZero_0 rfl (q := 0) rfl ?_
  refine z_ldcS (j := 14) F dX6_readZero_1 rfl rfl rfl ?_
  refine z_eq (st' := [.ref (ad 1014), .ref (ad 18)]) rfl rfl rfl ?_
  refine zv_i (rest := []) F (kp_X6_takeWord_18_1014 l M ⟨hI, hW⟩ (by omega)) cs_X6_144 (T := TX6) (N := 9) (ci := 6) rfl gs_18 (by decide) (by decide) rfl rfl rfl (Nat.le_of_ble_eq_true rfl) dX6_readZero_3 (fun v1 M2 rv1 hI p3 => ?_)
  obtain ⟨hI, hW⟩ := hI
  obtain ⟨⟨av1, bv1⟩, fp3, xp3, yp3⟩ := p3
  have hF := hF.call fp3 (by decide)
  refine z_if_eq (tgt := 23) F dX6_readZero_6 (by decide +kernel) (by omega) (fun c4 => ?_) (fun c4 => ?_)
  · refine z_aload_n F dX6_readZero_23 rfl (q := 0) rfl ?_
    refine z_ldcS (j := 15) F dX6_readZero_24 rfl rfl rfl ?_
    refine z_eq (st' := [.ref (ad 1015), .ref (ad 18)]) rfl rfl rfl ?_
    refine zv_i (rest := []) F (kp_X6_takeWord_18_1015 l M2 ⟨hI, hW⟩ (by omega)) cs_X6_144 (T := TX6) (N := 9) (ci := 6) rfl gs_18 (by decide) (by decide) rfl rfl rfl (Nat.le_of_ble_eq_true rfl) dX6_readZero_26 (fun v5 M6 rv5 hI p7 => ?_)
    obtain ⟨hI, hW⟩ := hI
    obtain ⟨⟨av5, bv5⟩, fp7, xp7, yp7⟩ := p7
    have hF := hF.call fp7 (by decide)
    refine z_if_eq (tgt := 46) F dX6_readZero_29 (by decide +kernel) (by omega) (fun c8 => ?_) (fun c8 => ?_)
    · refine z_aload_n F dX6_readZero_46 rfl (q := 0) rfl ?_
      refine z_ldcS (j := 16) F dX6_readZero_47 rfl rfl rfl ?_
      refine z_eq (st' := [.ref (ad 1016), .ref (ad 18)]) rfl rfl rfl ?_
      refine zv_i (rest := []) F (kp_X6_takeWord_18_1016 l M6 ⟨hI, hW⟩ (by omega)) cs_X6_144 (T := TX6) (N := 9) (ci := 6) rfl gs_18 (by decide) (by decide) rfl rfl rfl (Nat.le_of_ble_eq_true rfl) dX6_readZero_49 (fun v9 M10 rv9 hI p11 => ?_)
      obtain ⟨hI, hW⟩ := hI
      obtain ⟨⟨av9, bv9⟩, fp11, xp11, yp11⟩ := p11
      have hF := hF.call fp11 (by decide)
      refine z_if_eq (tgt := 69) F dX6_readZero_52 (by decide +kernel) (by omega) (fun c12 => ?_) (fun c12 => ?_)
      · refine z_aload_n F dX6_readZero_69 rfl (q := 0) rfl ?_
        refine z_ldcS (j := 17) F dX6_readZero_70 rfl rfl rfl ?_
        refine z_eq (st' := [.ref (ad 1017), .ref (ad 18)]) rfl rfl rfl ?_
        refine zv_i (rest := []) F (kp_X6_takeWord_18_1017 l M10 ⟨hI, hW⟩ (by omega)) cs_X6_144 (T := TX6) (N := 9) (ci := 6) rfl gs_18 (by decide) (by decide) rfl rfl rfl (Nat.le_of_ble_eq_true rfl) dX6_readZero_72 (fun v13 M14 rv13 hI p15 => ?_)
        obtain ⟨hI, hW⟩ := hI
        obtain ⟨⟨av13, bv13⟩, fp15, xp15, yp15⟩ := p15
        have hF := hF.call fp15 (by decide)
        refine z_if_eq (tgt := 92) F dX6_readZero_75 (by decide +kernel) (by omega) (fun c16 => ?_) (fun c16 => ?_)
        · refine z_aload_n F dX6_readZero_92 rfl (q := 0) rfl ?_
          refine zv_v (rest := []) F (kp_X6_refuse_18 l M14 ⟨hI, hW⟩) cs_X6_90 (T := TX6) (N := 9) (ci := 6) rfl gs_18 (by decide) (by decide) rfl rfl rfl (Nat.le_of_ble_eq_true rfl) dX6_readZero_93 (fun M17 hI p18 => ?_)
          obtain ⟨hI, hW⟩ := hI
          obtain ⟨fp18, xp18, yp18⟩ := p18
          have hF := hF.call fp18 (by decide)
          have b19 := wz_f yp3.1 (by omega)
          have g20 := took_e b19 yp3.2
          have b21 := wz_f yp7.1 (by omega)
          have g22 := (took_e b21 yp7.2).trans g20
          rw [g20] at b21
          have b23 := wz_f yp11.1 (by omega)
          have g24 := (took_e b23 yp11.2).trans g22
          rw [g22] at b23
          have b25 := wz_f yp15.1 (by omega)
          have g26 := (took_e b25 yp15.2).trans g24
          rw [g24] at b25
          have y27 := yp18
          rw [g26] at y27
          exact hret _ 96 _ ⟨hI, hW⟩ ⟨hF, (by omega), (fz_e (zero_5 b19 b21 b23 b25 y27).symm (fun _ => ((show dC M17 = dC M14 from dC_fr fp18 (by decide)).trans ((show dC M14 = dC M10 from dC_fr fp15 (by decide)).trans ((show dC M10 = dC M6 from dC_fr fp11 (by decide)).trans ((show dC M6 = dC M2 from dC_fr fp7 (by decide)).trans (show dC M2 = dC M from dC_fr fp3 (by decide))))))))⟩ dX6_readZero_96
        · refine z_aload_n F dX6_readZero_78 rfl (q := 0) rfl ?_
          refine rf_X6_12 F gs_18 rfl dX6_readZero_79 ?_
          refine rf_X6_152 F gs_19 rfl dX6_readZero_82 ?_
          refine z_iconst F dX6_readZero_85 ?_
          refine pf_X6_225 F hI gs_31 rfl bd_31_2 rfl rfl dX6_readZero_86 (by omega) (by omega) (fun M29 hI sf28 f28 => ?_)
          have tM29_18_1 : M29 18 1 = M14 18 1 := f28 18 1 (fun q => absurd q.1 (by decide))
          have tM29_18_4 : M29 18 4 = M14 18 4 := f28 18 4 (fun q => absurd q.1 (by decide))
          have tM29_18_5 : M29 18 5 = M14 18 5 := f28 18 5 (fun q => absurd q.1 (by decide))
          have tM29_18_6 : M29 18 6 = M14 18 6 := f28 18 6 (fun q => absurd q.1 (by decide))
          have tM29_18_7 : M29 18 7 = M14 18 7 := f28 18 7 (fun q => absurd q.1 (by decide))
          have hF := hF.wr f28 (by decide) (by decide)
          have hW : WFk M29 := hW.site f28 (by decide)
          refine z_goto (tgt := 96) F dX6_readZero_89 (by decide +kernel) ?_
          have b30 := wz_f yp3.1 (by omega)
          have g31 := took_e b30 yp3.2
          have b32 := wz_f yp7.1 (by omega)
          have g33 := (took_e b32 yp7.2).trans g31
          rw [g31] at b32
          have b34 := wz_f yp11.1 (by omega)
          have g35 := (took_e b34 yp11.2).trans g33
          rw [g33] at b34
          have b36 := wz_t yp15.1 (by omega)
          have a37 := took_a b36 yp15.2
          rw [g35] at a37 b36
          exact hret _ 96 _ ⟨hI, hW⟩ ⟨hF, (by omega), (fz_e ((absC_eq (fun j => (f28 18 j (fun q => absurd q.1 (by decide)))) (fun j => (f28 1 j (fun q => absurd q.1 (by decide)))) : absC M29 = absC M14).trans (zero_4 b30 b32 b34 b36 a37).symm) (fun _ => ((show dC M29 = dC M14 from dC_f (fun a b hq => f28 a b (fun q => by have := q.1; omega))).trans ((show dC M14 = dC M10 from dC_fr fp15 (by decide)).trans ((show dC M10 = dC M6 from dC_fr fp11 (by decide)).trans ((show dC M6 = dC M2 from dC_fr fp7 (by decide)).trans (show dC M2 = dC M from dC_fr fp3 (by decide))))))))⟩ dX6_readZero_96
      · refine z_aload_n F dX6_readZero_55 rfl (q := 0) rfl ?_
        refine rf_X6_12 F gs_18 rfl dX6_readZero_56 ?_
        refine rf_X6_152 F gs_19 rfl dX6_readZero_59 ?_
        refine z_iconst F dX6_readZero_62 ?_
        refine pf_X6_225 F hI gs_31 rfl bd_31_2 rfl rfl dX6_readZero_63 (by omega) (by omega) (fun M39 hI sf38 f38 => ?_)
        have tM39_18_1 : M39 18 1 = M10 18 1 := f38 18 1 (fun q => absurd q.1 (by decide))
        have tM39_18_4 : M39 18 4 = M10 18 4 := f38 18 4 (fun q => absurd q.1 (by decide))
        have tM39_18_5 : M39 18 5 = M10 18 5 := f38 18 5 (fun q => absurd q.1 (by decide))
        have tM39_18_6 : M39 18 6 = M10 18 6 := f38 18 6 (fun q => absurd q.1 (by decide))
        have tM39_18_7 : M39 18 7 = M10 18 7 := f38 18 7 (fun q => absurd q.1 (by decide))
        have hF := hF.wr f38 (by decide) (by decide)
        have hW : WFk M39 := hW.site f38 (by decide)
        refine z_goto (tgt := 96) F dX6_readZero_66 (by decide +kernel) ?_
        have b40 := wz_f yp3.1 (by omega)
        have g41 := took_e b40 yp3.2
        have b42 := wz_f yp7.1 (by omega)
        have g43 := (took_e b42 yp7.2).trans g41
        rw [g41] at b42
        have b44 := wz_t yp11.1 (by omega)
        have a45 := took_a b44 yp11.2
        rw [g43] at a45 b44
        exact hret _ 96 _ ⟨hI, hW⟩ ⟨hF, (by omega), (fz_e ((absC_eq (fun j => (f38 18 j (fun q => absurd q.1 (by decide)))) (fun j => (f38 1 j (fun q => absurd q.1 (by decide)))) : absC M39 = absC M10).trans (zero_3 b40 b42 b44 a45).symm) (fun _ => ((show dC M39 = dC M10 from dC_f (fun a b hq => f38 a b (fun q => by have := q.1; omega))).trans ((show dC M10 = dC M6 from dC_fr fp11 (by decide)).trans ((show dC M6 = dC M2 from dC_fr fp7 (by decide)).trans (show dC M2 = dC M from dC_fr fp3 (by decide)))))))⟩ dX6_readZero_96
    · refine z_aload_n F dX6_readZero_32 rfl (q := 0) rfl ?_
      refine rf_X6_12 F gs_18 rfl dX6_readZero_33 ?_
      refine rf_X6_152 F gs_19 rfl dX6_readZero_36 ?_
      refine z_iconst F dX6_readZero_39 ?_
      refine pf_X6_225 F hI gs_31 rfl bd_31_2 rfl rfl dX6_readZero_40 (by omega) (by omega) (fun M47 hI sf46 f46 => ?_)
      have tM47_18_1 : M47 18 1 = M6 18 1 := f46 18 1 (fun q => absurd q.1 (by decide))
      have tM47_18_4 : M47 18 4 = M6 18 4 := f46 18 4 (fun q => absurd q.1 (by decide))
      have tM47_18_5 : M47 18 5 = M6 18 5 := f46 18 5 (fun q => absurd q.1 (by decide))
      have tM47_18_6 : M47 18 6 = M6 18 6 := f46 18 6 (fun q => absurd q.1 (by decide))
      have tM47_18_7 : M47 18 7 = M6 18 7 := f46 18 7 (fun q => absurd q.1 (by decide))
      have hF := hF.wr f46 (by decide) (by decide)
      have hW : WFk M47 := hW.site f46 (by decide)
      refine z_goto (tgt := 96) F dX6_readZero_43 (by decide +kernel) ?_
      have b48 := wz_f yp3.1 (by omega)
      have g49 := took_e b48 yp3.2
      have b50 := wz_t yp7.1 (by omega)
      have a51 := took_a b50 yp7.2
      rw [g49] at a51 b50
      exact hret _ 96 _ ⟨hI, hW⟩ ⟨hF, (by omega), (fz_e ((absC_eq (fun j => (f46 18 j (fun q => absurd q.1 (by decide)))) (fun j => (f46 1 j (fun q => absurd q.1 (by decide)))) : absC M47 = absC M6).trans (zero_2 b48 b50 a51).symm) (fun _ => ((show dC M47 = dC M6 from dC_f (fun a b hq => f46 a b (fun q => by have := q.1; omega))).trans ((show dC M6 = dC M2 from dC_fr fp7 (by decide)).trans (show dC M2 = dC M from dC_fr fp3 (by decide))))))⟩ dX6_readZero_96
  · refine z_aload_n F dX6_readZero_9 rfl (q := 0) rfl ?_
    refine rf_X6_12 F gs_18 rfl dX6_readZero_10 ?_
    refine rf_X6_152 F gs_19 rfl dX6_readZero_13 ?_
    refine z_iconst F dX6_readZero_16 ?_
    refine pf_X6_225 F hI gs_31 rfl bd_31_2 rfl rfl dX6_readZero_17 (by omega) (by omega) (fun M53 hI sf52 f52 => ?_)
    have tM53_18_1 : M53 18 1 = M2 18 1 := f52 18 1 (fun q => absurd q.1 (by decide))
    have tM53_18_4 : M53 18 4 = M2 18 4 := f52 18 4 (fun q => absurd q.1 (by decide))
    have tM53_18_5 : M53 18 5 = M2 18 5 := f52 18 5 (fun q => absurd q.1 (by decide))
    have tM53_18_6 : M53 18 6 = M2 18 6 := f52 18 6 (fun q => absurd q.1 (by decide))
    have tM53_18_7 : M53 18 7 = M2 18 7 := f52 18 7 (fun q => absurd q.1 (by decide))
    have hF := hF.wr f52 (by decide) (by decide)
    have hW : WFk M53 := hW.site f52 (by decide)
    refine z_goto (tgt := 96) F dX6_readZero_20 (by decide +kernel) ?_
    have b54 := wz_t yp3.1 (by omega)
    have a55 := took_a b54 yp3.2
    exact hret _ 96 _ ⟨hI, hW⟩ ⟨hF, (by omega), (fz_e ((absC_eq (fun j => (f52 18 j (fun q => absurd q.1 (by decide)))) (fun j => (f52 1 j (fun q => absurd q.1 (by decide)))) : absC M53 = absC M2).trans (zero_1 b54 a55).symm) (fun _ => ((show dC M53 = dC M2 from dC_f (fun a b hq => f52 a b (fun q => by have := q.1; omega))).trans (show dC M2 = dC M from dC_fr fp3 (by decide)))))⟩ dX6_readZero_96
set_option maxHeartbeats 4000000 in
set_option maxRecDepth 4000 in
theorem kp_X6_beginLine_18 (l : Launch) (M : Mem) (hJ : Iw M) (x0 : Int) (hx0a : (-2147483648) ≤ x0) (hx0b : x0 ≤ 2147483647) (x1 : Int) (hx1a : 1 ≤ x1) (hx1b : x1 ≤ 100) (hp0 : M 18 6 ≤ M 18 5 ∧ M 18 5 ≤ M 18 4 ∧ M 18 7 ≤ 4 * (M 18 5 - M 18 6)) : CV l yX6_beginLine cX6_beginLine 3 none 7 (fun ad => [.ref (ad 18), ii x0, ii x1]) M (fun M' => Fr [18] M M' ∧ (M' 18 4 = M 18 4 ∧ M' 18 6 ≤ M' 18 5 ∧ M' 18 5 ≤ M' 18 4 ∧ M' 18 7 ≤ 4 * (M' 18 5 - M' 18 6) ∧ M 18 6 ≤ M' 18 6 ∧ (M' 18 1 = 0 → M 18 1 = 0) ∧ (x1 ≤ x0 → ¬ M' 18 1 = 0)) ∧ (Im (M 18 1 = 0) (begT x0 x1 (absC M) = absC M'))) := by
  obtain ⟨hI, hW⟩ := hJ
  have hF : Fr [18] M M := Fr.rf
  refine en_v (by decide +kernel) (fun ad => by exact Nat.le_of_ble_eq_true rfl) (fun D cy ad A p e s m args below meth c Q F hret => ?_)
  refine z_eq (ls' := [(0, .ref (ad 18)), (1, ii x0), (2, ii x1)]) rfl rfl rfl ?_
  refine z_iload_n F dX6_beginLine_0 rfl (q := 1) rfl ?_
  refine z_iload_n F dX6_beginLine_1 rfl (q := 2) rfl ?_
  refine z_icmp_lt (tgt := 13) F dX6_beginLine_2 (by decide +kernel) (by omega) (by omega) (fun c1 => ?_) (fun c1 => ?_)
  · refine z_aload_n F dX6_beginLine_13 rfl (q := 0) rfl ?_
    refine zv_v (rest := []) F (kp_X6_advance_18 l M ⟨hI, hW⟩ (by omega)) cs_X6_42 (T := TX6) (N := 9) (ci := 6) rfl gs_18 (by decide) (by decide) rfl rfl rfl (Nat.le_of_ble_eq_true rfl) dX6_beginLine_14 (fun M2 hI p3 => ?_)
    obtain ⟨hI, hW⟩ := hI
    obtain ⟨fp3, xp3, yp3⟩ := p3
    have hF := hF.call fp3 (by decide)
    exact hret _ 17 _ ⟨hI, hW⟩ ⟨hF, (by omega), (fun h0 => beg_a (by omega) (yp3 h0))⟩ dX6_beginLine_17
  · refine z_aload_n F dX6_beginLine_5 rfl (q := 0) rfl ?_
    refine z_iconst F dX6_beginLine_6 ?_
    refine zv_v (rest := []) F (kp_X6_fail_18 l M ⟨hI, hW⟩ 4 (by omega) (by omega)) cs_X6_82 (T := TX6) (N := 9) (ci := 6) rfl gs_18 (by decide) (by decide) rfl rfl rfl (Nat.le_of_ble_eq_true rfl) dX6_beginLine_7 (fun M4 hI p5 => ?_)
    obtain ⟨hI, hW⟩ := hI
    obtain ⟨fp5, xp5, yp5⟩ := p5
    have hF := hF.call fp5 (by decide)
    refine z_goto (tgt := 17) F dX6_beginLine_10 (by decide +kernel) ?_
    exact hret _ 17 _ ⟨hI, hW⟩ ⟨hF, (by omega), (fun h0 => beg_4 (by omega) yp5)⟩ dX6_beginLine_17
set_option maxHeartbeats 4000000 in
set_option maxRecDepth 4000 in
theorem kp_X6_takeNumberBut_18 (l : Launch) (M : Mem) (hJ : Iw M) (x0 : Int) (hx0a : 0 ≤ x0) (hx0b : x0 ≤ 1) (x1 : Int) (hx1a : (-2147483648) ≤ x1) (hx1b : x1 ≤ 2147483647) (x2 : Int) (hx2a : (-2147483648) ≤ x2) (hx2b : x2 ≤ 2147483647) (hp0 : M 18 6 ≤ M 18 5 ∧ M 18 5 ≤ M 18 4 ∧ M 18 7 ≤ 4 * (M 18 5 - M 18 6)) : CI l yX6_takeNumberBut cX6_takeNumberBut 5 (some .int) 7 (fun ad => [.ref (ad 18), ii x0, ii x1, ii x2]) M (fun z M' => ((-1) ≤ z ∧ z ≤ 2147483647) ∧ Fr [18] M M' ∧ (M' 18 4 = M 18 4 ∧ M' 18 6 ≤ M' 18 5 ∧ M' 18 5 ≤ M' 18 4 ∧ M' 18 7 ≤ 4 * (M' 18 5 - M' 18 6) ∧ M 18 6 ≤ M' 18 6 ∧ (M' 18 1 = 0 → M 18 1 = 0) ∧ (z = -1 ∧ ¬ M' 18 1 = 0 ∨ x0 ≤ z ∧ z ≤ x1)) ∧ (numB x0 x1 (btB x2) (absC M) = absC M' ∧ Im (M' 18 1 = 0) (z = s_vl (absC M)))) := by
  obtain ⟨hI, hW⟩ := hJ
  have hF : Fr [18] M M := Fr.rf
  refine en_i (by decide +kernel) (fun ad => by exact Nat.le_of_ble_eq_true rfl) (fun D cy ad A p e s m args below meth c Q F hret => ?_)
  refine z_eq (ls' := [(0, .ref (ad 18)), (1, ii x0), (2, ii x1), (3, ii x2)]) rfl rfl rfl ?_
  obtain ⟨u1, eu1⟩ : ∃ v : Int, v = M 18 1 := ⟨_, rfl⟩
  have ku1 : (-2147483648) ≤ u1 ∧ u1 ≤ 2147483647 := by have := hI.at (show Bd 18 1 = (-2147483648, 2147483647) from rfl); omega
  obtain ⟨u2, eu2⟩ : ∃ v : Int, v = M 18 2 := ⟨_, rfl⟩
  have ku2 : (-2147483648) ≤ u2 ∧ u2 ≤ 2147483647 := by have := hI.at (show Bd 18 2 = (-2147483648, 2147483647) from rfl); omega
  obtain ⟨u3, eu3⟩ : ∃ v : Int, v = M 18 4 := ⟨_, rfl⟩
  have ku3 : 0 ≤ u3 ∧ u3 ≤ 900 := by have := hI.at (show Bd 18 4 = (0, 900) from rfl); omega
  obtain ⟨u4, eu4⟩ : ∃ v : Int, v = M 18 5 := ⟨_, rfl⟩
  have ku4 : 0 ≤ u4 ∧ u4 ≤ 900 := by have := hI.at (show Bd 18 5 = (0, 900) from rfl); omega
  obtain ⟨u5, eu5⟩ : ∃ v : Int, v = M 18 6 := ⟨_, rfl⟩
  have ku5 : 0 ≤ u5 ∧ u5 ≤ 900 := by have := hI.at (show Bd 18 6 = (0, 900) from rfl); omega
  obtain ⟨u6, eu6⟩ : ∃ v : Int, v = M 18 7 := ⟨_, rfl⟩
  have ku6 : 0 ≤ u6 ∧ u6 ≤ 4 := by have := hI.at (show Bd 18 7 = (0, 4) from rfl); omega
  obtain ⟨u7, eu7⟩ : ∃ v : Int, v = M 18 8 := ⟨_, rfl⟩
  have ku7 : (-2147483648) ≤ u7 ∧ u7 ≤ 2147483647 := by have := hI.at (show Bd 18 8 = (-2147483648, 2147483647) from rfl); omega
  refine z_aload_n F dX6_takeNumberBut_0 rfl (q := 0) rfl ?_
  refine gf_X6_36 F hI gs_18 rfl bd_18_1 dX6_takeNumberBut_1 (fun v8 ev8 av8 bv8 => ?_)
  have zv8 : u1 = v8 := eu1.trans ev8.symm
  subst zv8
  refine z_if_ne (tgt := 15) F dX6_takeNumberBut_4 (by decide +kernel) (by omega) (fun c9 => ?_) (fun c9 => ?_)
  · refine z_aload_n F dX6_takeNumberBut_15 rfl (q := 0) rfl ?_
    refine zv_v (rest := []) F (kp_X6_refuse_18 l M ⟨hI, hW⟩) cs_X6_90 (T := TX6) (N := 9) (ci := 6) rfl gs_18 (by decide) (by decide) rfl rfl rfl (Nat.le_of_ble_eq_true rfl) dX6_takeNumberBut_16 (fun M10 hI p11 => ?_)
    obtain ⟨hI, hW⟩ := hI
    obtain ⟨fp11, xp11, yp11⟩ := p11
    have hF := hF.call fp11 (by decide)
    refine z_iconst F dX6_takeNumberBut_19 ?_
    exact hret _ _ 20 _ (by omega) ⟨hI, hW⟩ ⟨⟨by omega, by omega⟩, hF, (by omega), ⟨nb2C (by rw [tkC_lt (c := 2) (by decide) (by decide)]; omega) yp11, (fun q => by exfalso; omega)⟩⟩ dX6_takeNumberBut_20
  · refine z_aload_n F dX6_takeNumberBut_7 rfl (q := 0) rfl ?_
    refine gf_X6_48 F hI gs_18 rfl bd_18_7 dX6_takeNumberBut_8 (fun v12 ev12 av12 bv12 => ?_)
    have zv12 : u6 = v12 := eu6.trans ev12.symm
    subst zv12
    refine z_iconst F dX6_takeNumberBut_11 ?_
    refine z_icmp_eq (tgt := 21) F dX6_takeNumberBut_12 (by decide +kernel) (by omega) (by omega) (fun c13 => ?_) (fun c13 => ?_)
    · refine z_aload_n F dX6_takeNumberBut_21 rfl (q := 0) rfl ?_
      refine gf_X6_60 F hI gs_18 rfl bd_18_8 dX6_takeNumberBut_22 (fun v14 ev14 av14 bv14 => ?_)
      have zv14 : u7 = v14 := eu7.trans ev14.symm
      subst zv14
      refine z_iload_n F dX6_takeNumberBut_25 rfl (q := 1) rfl ?_
      refine z_icmp_lt (tgt := 48) F dX6_takeNumberBut_26 (by decide +kernel) (by omega) (by omega) (fun c15 => ?_) (fun c15 => ?_)
      · refine z_aload_n F dX6_takeNumberBut_48 rfl (q := 0) rfl ?_
        refine z_iconst F dX6_takeNumberBut_49 ?_
        refine zv_v (rest := []) F (kp_X6_fail_18 l M ⟨hI, hW⟩ 3 (by omega) (by omega)) cs_X6_82 (T := TX6) (N := 9) (ci := 6) rfl gs_18 (by decide) (by decide) rfl rfl rfl (Nat.le_of_ble_eq_true rfl) dX6_takeNumberBut_50 (fun M16 hI p17 => ?_)
        obtain ⟨hI, hW⟩ := hI
        obtain ⟨fp17, xp17, yp17⟩ := p17
        have hF := hF.call fp17 (by decide)
        refine z_iconst F dX6_takeNumberBut_53 ?_
        exact hret _ _ 54 _ (by omega) ⟨hI, hW⟩ ⟨⟨by omega, by omega⟩, hF, (by omega), ⟨nb3C (by rw [tkC_lt (c := 2) (by decide) (by decide)]; omega) (by rw [(show vlC M = u7 from by unfold vlC; rw [if_pos (by omega)]; omega)]; exact (fun q => by have q1 := q.1; have q2 := q.2.1; omega)) (bl_of (by rw [(vC_tk (by omega)).1, tkC_3 (by omega)]; omega) yp17), (fun q => by exfalso; omega)⟩⟩ dX6_takeNumberBut_54
      · refine z_aload_n F dX6_takeNumberBut_29 rfl (q := 0) rfl ?_
        refine gf_X6_60 F hI gs_18 rfl bd_18_8 dX6_takeNumberBut_30 (fun v18 ev18 av18 bv18 => ?_)
        have zv18 : u7 = v18 := eu7.trans ev18.symm
        subst zv18
        refine z_iload_n F dX6_takeNumberBut_33 rfl (q := 2) rfl ?_
        refine z_icmp_gt (tgt := 48) F dX6_takeNumberBut_34 (by decide +kernel) (by omega) (by omega) (fun c19 => ?_) (fun c19 => ?_)
        · refine z_aload_n F dX6_takeNumberBut_48 rfl (q := 0) rfl ?_
          refine z_iconst F dX6_takeNumberBut_49 ?_
          refine zv_v (rest := []) F (kp_X6_fail_18 l M ⟨hI, hW⟩ 3 (by omega) (by omega)) cs_X6_82 (T := TX6) (N := 9) (ci := 6) rfl gs_18 (by decide) (by decide) rfl rfl rfl (Nat.le_of_ble_eq_true rfl) dX6_takeNumberBut_50 (fun M20 hI p21 => ?_)
          obtain ⟨hI, hW⟩ := hI
          obtain ⟨fp21, xp21, yp21⟩ := p21
          have hF := hF.call fp21 (by decide)
          refine z_iconst F dX6_takeNumberBut_53 ?_
          exact hret _ _ 54 _ (by omega) ⟨hI, hW⟩ ⟨⟨by omega, by omega⟩, hF, (by omega), ⟨nb3C (by rw [tkC_lt (c := 2) (by decide) (by decide)]; omega) (by rw [(show vlC M = u7 from by unfold vlC; rw [if_pos (by omega)]; omega)]; exact (fun q => by have q1 := q.1; have q2 := q.2.1; omega)) (bl_of (by rw [(vC_tk (by omega)).1, tkC_3 (by omega)]; omega) yp21), (fun q => by exfalso; omega)⟩⟩ dX6_takeNumberBut_54
        · refine z_iload_n F dX6_takeNumberBut_37 rfl (q := 3) rfl ?_
          refine z_aload_n F dX6_takeNumberBut_38 rfl (q := 0) rfl ?_
          refine gf_X6_60 F hI gs_18 rfl bd_18_8 dX6_takeNumberBut_39 (fun v22 ev22 av22 bv22 => ?_)
          have zv22 : u7 = v22 := eu7.trans ev22.symm
          subst zv22
          refine zn_i (rest := []) F (k_X11_isIn l M ⟨hI, hW⟩ x2 (by omega) (by omega) u7 (by omega) (by omega)) cs_X6_100 (by decide) (by decide) rfl rfl rfl (Nat.le_of_ble_eq_true rfl) dX6_takeNumberBut_42 (fun v23 M24 rv23 hI p25 => ?_)
          obtain ⟨hI, hW⟩ := hI
          obtain ⟨⟨av23, bv23⟩, rfl, xp25⟩ := p25
          have hbqu7 := xp25
          refine z_if_eq (tgt := 55) F dX6_takeNumberBut_45 (by decide +kernel) (by omega) (fun c26 => ?_) (fun c26 => ?_)
          · refine z_aload_n F dX6_takeNumberBut_55 rfl (q := 0) rfl ?_
            refine gf_X6_60 F hI gs_18 rfl bd_18_8 dX6_takeNumberBut_56 (fun v27 ev27 av27 bv27 => ?_)
            have zv27 : u7 = v27 := eu7.trans ev27.symm
            subst zv27
            refine z_istore F dX6_takeNumberBut_59 (by decide) (ls' := [(4, ii u7), (0, .ref (ad 18)), (1, ii x0), (2, ii x1), (3, ii x2)]) rfl ?_
            refine z_aload_n F dX6_takeNumberBut_61 rfl (q := 1) rfl ?_
            refine zv_v (rest := []) F (kp_X6_advance_18 l M ⟨hI, hW⟩ (by omega)) cs_X6_42 (T := TX6) (N := 9) (ci := 6) rfl gs_18 (by decide) (by decide) rfl rfl rfl (Nat.le_of_ble_eq_true rfl) dX6_takeNumberBut_62 (fun M28 hI p29 => ?_)
            obtain ⟨hI, hW⟩ := hI
            obtain ⟨fp29, xp29, yp29⟩ := p29
            have hF := hF.call fp29 (by decide)
            refine z_iload F dX6_takeNumberBut_65 (q := 0) rfl ?_
            exact hret _ _ 67 _ (by omega) ⟨hI, hW⟩ ⟨⟨by omega, by omega⟩, hF, (by omega), ⟨nbaC (by omega) (by rw [tkC_lt (c := 2) (by decide) (by decide)]; omega) (by rw [(show vlC M = u7 from by unfold vlC; rw [if_pos (by omega)]; omega)]; exact ⟨by omega, by omega, btB_f (fun q => by have g9 := xp25.mpr q; omega)⟩) (yp29 (by omega)), fun q => (by rw [(vC_tk (by omega)).2.2.2, (show vlC M = u7 from by unfold vlC; rw [if_pos (by omega)]; omega)] <;> omega)⟩⟩ dX6_takeNumberBut_67
          · refine z_aload_n F dX6_takeNumberBut_48 rfl (q := 0) rfl ?_
            refine z_iconst F dX6_takeNumberBut_49 ?_
            refine zv_v (rest := []) F (kp_X6_fail_18 l M ⟨hI, hW⟩ 3 (by omega) (by omega)) cs_X6_82 (T := TX6) (N := 9) (ci := 6) rfl gs_18 (by decide) (by decide) rfl rfl rfl (Nat.le_of_ble_eq_true rfl) dX6_takeNumberBut_50 (fun M30 hI p31 => ?_)
            obtain ⟨hI, hW⟩ := hI
            obtain ⟨fp31, xp31, yp31⟩ := p31
            have hF := hF.call fp31 (by decide)
            refine z_iconst F dX6_takeNumberBut_53 ?_
            exact hret _ _ 54 _ (by omega) ⟨hI, hW⟩ ⟨⟨by omega, by omega⟩, hF, (by omega), ⟨nb3C (by rw [tkC_lt (c := 2) (by decide) (by decide)]; omega) (by rw [(show vlC M = u7 from by unfold vlC; rw [if_pos (by omega)]; omega)]; exact (fun q => btB_n q.2.2 (xp25.mp (by omega)))) (bl_of (by rw [(vC_tk (by omega)).1, tkC_3 (by omega)]; omega) yp31), (fun q => by exfalso; omega)⟩⟩ dX6_takeNumberBut_54
    · refine z_aload_n F dX6_takeNumberBut_15 rfl (q := 0) rfl ?_
      refine zv_v (rest := []) F (kp_X6_refuse_18 l M ⟨hI, hW⟩) cs_X6_90 (T := TX6) (N := 9) (ci := 6) rfl gs_18 (by decide) (by decide) rfl rfl rfl (Nat.le_of_ble_eq_true rfl) dX6_takeNumberBut_16 (fun M32 hI p33 => ?_)
      obtain ⟨hI, hW⟩ := hI
      obtain ⟨fp33, xp33, yp33⟩ := p33
      have hF := hF.call fp33 (by decide)
      refine z_iconst F dX6_takeNumberBut_19 ?_
      exact hret _ _ 20 _ (by omega) ⟨hI, hW⟩ ⟨⟨by omega, by omega⟩, hF, (by omega), ⟨nb2C (by rw [tkC_lt (c := 2) (by decide) (by decide)]; omega) yp33, (fun q => by exfalso; omega)⟩⟩ dX6_takeNumberBut_20
set_option maxHeartbeats 4000000 in
set_option maxRecDepth 4000 in
theorem kp_X6_takeNumber_18 (l : Launch) (M : Mem) (hJ : Iw M) (x0 : Int) (hx0a : 0 ≤ x0) (hx0b : x0 ≤ 1) (x1 : Int) (hx1a : (-2147483648) ≤ x1) (hx1b : x1 ≤ 2147483647) (hp0 : M 18 6 ≤ M 18 5 ∧ M 18 5 ≤ M 18 4 ∧ M 18 7 ≤ 4 * (M 18 5 - M 18 6)) : CI l yX6_takeNumber cX6_takeNumber 3 (some .int) 8 (fun ad => [.ref (ad 18), ii x0, ii x1]) M (fun z M' => ((-1) ≤ z ∧ z ≤ 2147483647) ∧ Fr [18] M M' ∧ (M' 18 4 = M 18 4 ∧ M' 18 6 ≤ M' 18 5 ∧ M' 18 5 ≤ M' 18 4 ∧ M' 18 7 ≤ 4 * (M' 18 5 - M' 18 6) ∧ M 18 6 ≤ M' 18 6 ∧ (M' 18 1 = 0 → M 18 1 = 0) ∧ (z = -1 ∧ ¬ M' 18 1 = 0 ∨ x0 ≤ z ∧ z ≤ x1)) ∧ (numB x0 x1 noB (absC M) = absC M' ∧ Im (M' 18 1 = 0) (z = s_vl (absC M)))) := by
  obtain ⟨hI, hW⟩ := hJ
  have hF : Fr [18] M M := Fr.rf
  refine en_i (by decide +kernel) (fun ad => by exact Nat.le_of_ble_eq_true rfl) (fun D cy ad A p e s m args below meth c Q F hret => ?_)
  refine z_eq (ls' := [(0, .ref (ad 18)), (1, ii x0), (2, ii x1)]) rfl rfl rfl ?_
  refine z_aload_n F dX6_takeNumber_0 rfl (q := 0) rfl ?_
  refine z_iload_n F dX6_takeNumber_1 rfl (q := 1) rfl ?_
  refine z_iload_n F dX6_takeNumber_2 rfl (q := 2) rfl ?_
  refine z_iconst F dX6_takeNumber_3 ?_
  refine zv_i (rest := []) F (kp_X6_takeNumberBut_18 l M ⟨hI, hW⟩ x0 (by omega) (by omega) x1 (by omega) (by omega) 0 (by omega) (by omega) (by omega)) cs_X6_97 (T := TX6) (N := 9) (ci := 6) rfl gs_18 (by decide) (by decide) rfl rfl rfl (Nat.le_of_ble_eq_true rfl) dX6_takeNumber_4 (fun v1 M2 rv1 hI p3 => ?_)
  obtain ⟨hI, hW⟩ := hI
  obtain ⟨⟨av1, bv1⟩, fp3, xp3, yp3⟩ := p3
  have hF := hF.call fp3 (by decide)
  have hkv1 : -1 ≤ v1 ∧ v1 ≤ 2147483647 := by omega
  exact hret _ _ 7 _ (by omega) ⟨hI, hW⟩ ⟨⟨by omega, by omega⟩, hF, (by omega), (by rw [← btB_0]; exact yp3)⟩ dX6_takeNumber_7
set_option maxHeartbeats 4000000 in
set_option maxRecDepth 4000 in
theorem kp_X6_needWord_18_1005 (l : Launch) (M : Mem) (hJ : Iw M) (hp0 : M 18 6 ≤ M 18 5 ∧ M 18 5 ≤ M 18 4 ∧ M 18 7 ≤ 4 * (M 18 5 - M 18 6)) : CV l yX6_needWord cX6_needWord 2 none 7 (fun ad => [.ref (ad 18), .ref (ad 1005)]) M (fun M' => Fr [18] M M' ∧ (M' 18 4 = M 18 4 ∧ M' 18 6 ≤ M' 18 5 ∧ M' 18 5 ≤ M' 18 4 ∧ M' 18 7 ≤ 4 * (M' 18 5 - M' 18 6) ∧ M 18 6 ≤ M' 18 6 ∧ (M' 18 1 = 0 → M 18 1 = 0)) ∧ (mustW w_thing (absC M) = absC M')) := by
  obtain ⟨hI, hW⟩ := hJ
  have hF : Fr [18] M M := Fr.rf
  refine en_v (by decide +kernel) (fun ad => by exact Nat.le_of_ble_eq_true rfl) (fun D cy ad A p e s m args below meth c Q F hret => ?_)
  refine z_eq (ls' := [(0, .ref (ad 18)), (1, .ref (ad 1005))]) rfl rfl rfl ?_
  refine z_aload_n F dX6_needWord_0 rfl (q := 0) rfl ?_
  refine z_aload_n F dX6_needWord_1 rfl (q := 1) rfl ?_
  refine zv_i (rest := []) F (kp_X6_isWord_18_1005 l M ⟨hI, hW⟩ (by omega)) cs_X6_86 (T := TX6) (N := 9) (ci := 6) rfl gs_18 (by decide) (by decide) rfl rfl rfl (Nat.le_of_ble_eq_true rfl) dX6_needWord_2 (fun v1 M2 rv1 hI p3 => ?_)
  obtain ⟨hI, hW⟩ := hI
  obtain ⟨⟨av1, bv1⟩, rfl, xp3, yp3⟩ := p3
  refine z_if_eq (tgt := 15) F dX6_needWord_5 (by decide +kernel) (by omega) (fun c4 => ?_) (fun c4 => ?_)
  · refine z_aload_n F dX6_needWord_15 rfl (q := 0) rfl ?_
    refine zv_v (rest := []) F (kp_X6_refuse_18 l M ⟨hI, hW⟩) cs_X6_90 (T := TX6) (N := 9) (ci := 6) rfl gs_18 (by decide) (by decide) rfl rfl rfl (Nat.le_of_ble_eq_true rfl) dX6_needWord_16 (fun M5 hI p6 => ?_)
    obtain ⟨hI, hW⟩ := hI
    obtain ⟨fp6, xp6, yp6⟩ := p6
    have hF := hF.call fp6 (by decide)
    exact hret _ 19 _ ⟨hI, hW⟩ ⟨hF, (by omega), (must_f (wz_f yp3 (by omega)) yp6)⟩ dX6_needWord_19
  · refine z_aload_n F dX6_needWord_8 rfl (q := 0) rfl ?_
    refine zv_v (rest := []) F (kp_X6_advance_18 l M ⟨hI, hW⟩ (by omega)) cs_X6_42 (T := TX6) (N := 9) (ci := 6) rfl gs_18 (by decide) (by decide) rfl rfl rfl (Nat.le_of_ble_eq_true rfl) dX6_needWord_9 (fun M7 hI p8 => ?_)
    obtain ⟨hI, hW⟩ := hI
    obtain ⟨fp8, xp8, yp8⟩ := p8
    have hF := hF.call fp8 (by decide)
    refine z_goto (tgt := 19) F dX6_needWord_12 (by decide +kernel) ?_
    exact hret _ 19 _ ⟨hI, hW⟩ ⟨hF, (by omega), (must_t (wz_t yp3 (by omega)) (yp8 (by omega)))⟩ dX6_needWord_19
set_option maxHeartbeats 4000000 in
set_option maxRecDepth 4000 in
theorem kp_X6_isWord_18_1011 (l : Launch) (M : Mem) (hJ : Iw M) (hp0 : M 18 6 ≤ M 18 5 ∧ M 18 5 ≤ M 18 4 ∧ M 18 7 ≤ 4 * (M 18 5 - M 18 6)) : CI l yX6_isWord cX6_isWord 3 (some .boolean) 5 (fun ad => [.ref (ad 18), .ref (ad 1011)]) M (fun z M' => (0 ≤ z ∧ z ≤ 1) ∧ M = M' ∧ (M 18 6 + z ≤ M 18 5 ∧ (z = 1 → M 18 1 = 0)) ∧ (WZ z (isW w_less (absC M)))) := by
  obtain ⟨hI, hW⟩ := hJ
  refine en_z (by decide +kernel) (fun ad => by exact Nat.le_of_ble_eq_true rfl) (fun D cy ad A p e s m args below meth c Q F hret => ?_)
  refine z_eq (ls' := [(0, .ref (ad 18)), (1, .ref (ad 1011))]) rfl rfl rfl ?_
  obtain ⟨u1, eu1⟩ : ∃ v : Int, v = M 18 1 := ⟨_, rfl⟩
  have ku1 : (-2147483648) ≤ u1 ∧ u1 ≤ 2147483647 := by have := hI.at (show Bd 18 1 = (-2147483648, 2147483647) from rfl); omega
  obtain ⟨u2, eu2⟩ : ∃ v : Int, v = M 18 2 := ⟨_, rfl⟩
  have ku2 : (-2147483648) ≤ u2 ∧ u2 ≤ 2147483647 := by have := hI.at (show Bd 18 2 = (-2147483648, 2147483647) from rfl); omega
  obtain ⟨u3, eu3⟩ : ∃ v : Int, v = M 18 4 := ⟨_, rfl⟩
  have ku3 : 0 ≤ u3 ∧ u3 ≤ 900 := by have := hI.at (show Bd 18 4 = (0, 900) from rfl); omega
  obtain ⟨u4, eu4⟩ : ∃ v : Int, v = M 18 5 := ⟨_, rfl⟩
  have ku4 : 0 ≤ u4 ∧ u4 ≤ 900 := by have := hI.at (show Bd 18 5 = (0, 900) from rfl); omega
  obtain ⟨u5, eu5⟩ : ∃ v : Int, v = M 18 6 := ⟨_, rfl⟩
  have ku5 : 0 ≤ u5 ∧ u5 ≤ 900 := by have := hI.at (show Bd 18 6 = (0, 900) from rfl); omega
  obtain ⟨u6, eu6⟩ : ∃ v : Int, v = M 18 7 := ⟨_, rfl⟩
  have ku6 : 0 ≤ u6 ∧ u6 ≤ 4 := by have := hI.at (show Bd 18 7 = (0, 4) from rfl); omega
  obtain ⟨u7, eu7⟩ : ∃ v : Int, v = M 18 8 := ⟨_, rfl⟩
  have ku7 : (-2147483648) ≤ u7 ∧ u7 ≤ 2147483647 := by have := hI.at (show Bd 18 8 = (-2147483648, 2147483647) from rfl); omega
  refine z_aload_n F dX6_isWord_0 rfl (q := 0) rfl ?_
  refine gf_X6_36 F hI gs_18 rfl bd_18_1 dX6_isWord_1 (fun v8 ev8 av8 bv8 => ?_)
  have zv8 : u1 = v8 := eu1.trans ev8.symm
  subst zv8
  refine z_if_ne (tgt := 31) F dX6_isWord_4 (by decide +kernel) (by omega) (fun c9 => ?_) (fun c9 => ?_)
  · refine z_iconst F dX6_isWord_31 ?_
    exact hret _ _ 32 _ ⟨by omega, by omega⟩ ⟨hI, hW⟩ ⟨⟨by omega, by omega⟩, rfl, (by omega), (iwC_e (k := 0) (iwC_n (by rw [wl_less, tkC_lt (c := 1) (by decide) (by decide)]; omega)) (fun q => by exfalso; omega) (by omega) (by omega))⟩ dX6_isWord_32
  · refine z_aload_n F dX6_isWord_7 rfl (q := 0) rfl ?_
    refine gf_X6_48 F hI gs_18 rfl bd_18_7 dX6_isWord_8 (fun v10 ev10 av10 bv10 => ?_)
    have zv10 : u6 = v10 := eu6.trans ev10.symm
    subst zv10
    refine z_iconst F dX6_isWord_11 ?_
    refine z_icmp_ne (tgt := 31) F dX6_isWord_12 (by decide +kernel) (by omega) (by omega) (fun c11 => ?_) (fun c11 => ?_)
    · refine z_iconst F dX6_isWord_31 ?_
      exact hret _ _ 32 _ ⟨by omega, by omega⟩ ⟨hI, hW⟩ ⟨⟨by omega, by omega⟩, rfl, (by omega), (iwC_e (k := 0) (iwC_n (by rw [wl_less, tkC_lt (c := 1) (by decide) (by decide)]; omega)) (fun q => by exfalso; omega) (by omega) (by omega))⟩ dX6_isWord_32
    · refine z_aload_n F dX6_isWord_15 rfl (q := 0) rfl ?_
      refine gf_X6_33 F hI gs_18 rfl bd_18_5 dX6_isWord_16 (fun v12 ev12 av12 bv12 => ?_)
      have zv12 : u4 = v12 := eu4.trans ev12.symm
      subst zv12
      refine z_aload_n F dX6_isWord_19 rfl (q := 0) rfl ?_
      refine gf_X6_57 F hI gs_18 rfl bd_18_6 dX6_isWord_20 (fun v13 ev13 av13 bv13 => ?_)
      have zv13 : u5 = v13 := eu5.trans ev13.symm
      subst zv13
      refine z_isub F dX6_isWord_23 ?_
      refine z_aload_n F dX6_isWord_24 rfl (q := 1) rfl ?_
      refine zvs_i (i := 11) (rest := [ii (u4 - u5)]) F (kS_len l M ⟨hI, hW⟩ 11 (by decide)) cs_X6_75 (by decide) (by decide) (by decide) rfl rfl rfl (Nat.le_of_ble_eq_true rfl) dX6_isWord_25 (fun v14 M9 rv14 hI9 pv14 => ?_)
      obtain ⟨ev14, rfl⟩ := pv14
      obtain rfl : v14 = 4 := ev14.trans (show ((sbyt.getD 11 []).length : Int) = 4 from by decide)
      clear hI9
      refine z_icmp_eq (tgt := 33) F dX6_isWord_28 (by decide +kernel) (by omega) (by omega) (fun c15 => ?_) (fun c15 => ?_)
      · refine z_iconst F dX6_isWord_33 ?_
        refine z_istore_n F dX6_isWord_34 rfl (by decide) (ls' := [(2, ii 0), (0, .ref (ad 18)), (1, .ref (ad 1011))]) rfl ?_
        refine z_loc [1, 2, 0] (ls' := [(0, .ref (ad 18)), (1, .ref (ad 1011)), (2, ii 0)]) rfl ?_
        suffices key35 : ∀ (n : Nat) (y17 : Int), 0 ≤ y17 → y17 ≤ 4 → (Iw_C M w_less 1 y17) → 4 - y17 < (n : Int) → Z D cy ad p l e (RMh 5) s m args below meth c A 3 0 0 Q 35 [(0, .ref (ad 18)), (1, .ref (ad 1011)), (2, ii y17)] [] M from key35 5 0 (by omega) (by omega) iwC_0 (by omega)
        intro n35
        induction n35 with
        | zero => intro y17 ay17 by17 i35_0 hn35; exfalso; omega
        | succ n35 ih35 =>
          intro y17 ay17 by17 i35_0 hn35
          refine z_iload_n F dX6_isWord_35 rfl (q := 2) rfl ?_
          refine z_aload_n F dX6_isWord_36 rfl (q := 1) rfl ?_
          refine zvs_i (i := 11) (rest := [ii y17]) F (kS_len l M ⟨hI, hW⟩ 11 (by decide)) cs_X6_75 (by decide) (by decide) (by decide) rfl rfl rfl (Nat.le_of_ble_eq_true rfl) dX6_isWord_37 (fun v18 M9 rv18 hI9 pv18 => ?_)
          obtain ⟨ev18, rfl⟩ := pv18
          obtain rfl : v18 = 4 := ev18.trans (show ((sbyt.getD 11 []).length : Int) = 4 from by decide)
          clear hI9
          refine z_icmp_ge (tgt := 70) F dX6_isWord_40 (by decide +kernel) (by omega) (by omega) (fun c19 => ?_) (fun c19 => ?_)
          · refine z_iconst F dX6_isWord_70 ?_
            exact hret _ _ 71 _ ⟨by omega, by omega⟩ ⟨hI, hW⟩ ⟨⟨by omega, by omega⟩, rfl, (by omega), (iwC_e i35_0 (fun q => by rw [wl_less, tkC_lt (c := 1) (by decide) (by decide)]; omega) (by omega) (by omega))⟩ dX6_isWord_71
          · refine z_aload_n F dX6_isWord_43 rfl (q := 0) rfl ?_
            refine rf_X6_22 F gs_18 rfl dX6_isWord_44 ?_
            refine z_aload_n F dX6_isWord_47 rfl (q := 0) rfl ?_
            refine gf_X6_57 F hI gs_18 rfl bd_18_6 dX6_isWord_48 (fun v20 ev20 av20 bv20 => ?_)
            have zv20 : u5 = v20 := eu5.trans ev20.symm
            subst zv20
            refine z_iload_n F dX6_isWord_51 rfl (q := 2) rfl ?_
            refine z_iadd F dX6_isWord_52 ?_
            have k21 : 0 ≤ (u5 + y17) ∧ (u5 + y17) ≤ 899 := by omega
            refine z_bald F hI gs_1 (by omega) (by omega) (by decide) bd_1 dX6_isWord_53 (fun v22 (ev22 : v22 = M 1 _) av22 bv22 => ?_)
            refine z_aload_n F dX6_isWord_54 rfl (q := 1) rfl ?_
            refine z_iload_n F dX6_isWord_55 rfl (q := 2) rfl ?_
            refine zvs_i (i := 11) (rest := [ii v22]) F (kS_chr l M ⟨hI, hW⟩ 11 (by decide) y17 (by omega) (show y17 < ((sbyt.getD 11 []).length : Int) from by rw [show ((sbyt.getD 11 []).length : Int) = 4 from by decide]; omega)) cs_X6_78 (by decide) (by decide) (by decide) rfl rfl rfl (Nat.le_of_ble_eq_true rfl) dX6_isWord_56 (fun v23 M9 rv23 hI9 pv23 => ?_)
            obtain ⟨⟨av23, bv23, ev23⟩, rfl⟩ := pv23
            clear hI9
            refine z_icmp_eq (tgt := 64) F dX6_isWord_59 (by decide +kernel) (by omega) (by omega) (fun c24 => ?_) (fun c24 => ?_)
            · refine z_iincN F dX6_isWord_64 (q := 2) rfl (by decide) (fun v25 ev25 => ?_)
              refine z_eq (ls' := [(2, ii v25), (0, .ref (ad 18)), (1, .ref (ad 1011))]) rfl rfl rfl ?_
              refine z_goto (tgt := 35) F dX6_isWord_67 (by decide +kernel) ?_
              refine z_loc [1, 2, 0] (ls' := [(0, .ref (ad 18)), (1, .ref (ad 1011)), (2, ii v25)]) rfl ?_
              exact ih35 v25 (by omega) (by omega) (by rw [show v25 = y17 + 1 from by omega]; exact iwC_s (z' := 1) (c1 := v22 % 256) i35_0 rfl (by omega) (by rw [wl_less]; omega) (by rw [wl_less]; omega) (show v22 % 256 = bC M ((M 18 6).toNat + (y17).toNat) from by show _ = M 1 _ % 256; rw [show (M 18 6).toNat + (y17).toNat = ((u5 + y17)).toNat from by omega, ← ev22]) (ev23.trans (sw_11 (y17).toNat (by omega)).1) (by have g9 := (sw_11 (y17).toNat (by omega)).2; omega)) (by omega)
            · refine z_iconst F dX6_isWord_62 ?_
              exact hret _ _ 63 _ ⟨by omega, by omega⟩ ⟨hI, hW⟩ ⟨⟨by omega, by omega⟩, rfl, (by omega), (iwC_e (iwC_s (z' := 0) (c1 := v22 % 256) i35_0 rfl (by omega) (by rw [wl_less]; omega) (by rw [wl_less]; omega) (show v22 % 256 = bC M ((M 18 6).toNat + (y17).toNat) from by show _ = M 1 _ % 256; rw [show (M 18 6).toNat + (y17).toNat = ((u5 + y17)).toNat from by omega, ← ev22]) (ev23.trans (sw_11 (y17).toNat (by omega)).1) (by have g9 := (sw_11 (y17).toNat (by omega)).2; omega)) (fun q => by exfalso; omega) (by omega) (by omega))⟩ dX6_isWord_63
      · refine z_iconst F dX6_isWord_31 ?_
        exact hret _ _ 32 _ ⟨by omega, by omega⟩ ⟨hI, hW⟩ ⟨⟨by omega, by omega⟩, rfl, (by omega), (iwC_e (k := 0) (iwC_n (by rw [wl_less, tkC_lt (c := 1) (by decide) (by decide)]; omega)) (fun q => by exfalso; omega) (by omega) (by omega))⟩ dX6_isWord_32
set_option maxHeartbeats 4000000 in
set_option maxRecDepth 4000 in
theorem kp_X6_takeWord_18_1011 (l : Launch) (M : Mem) (hJ : Iw M) (hp0 : M 18 6 ≤ M 18 5 ∧ M 18 5 ≤ M 18 4 ∧ M 18 7 ≤ 4 * (M 18 5 - M 18 6)) : CI l yX6_takeWord cX6_takeWord 3 (some .boolean) 7 (fun ad => [.ref (ad 18), .ref (ad 1011)]) M (fun z M' => (0 ≤ z ∧ z ≤ 1) ∧ Fr [18] M M' ∧ (M' 18 4 = M 18 4 ∧ M' 18 6 ≤ M' 18 5 ∧ M' 18 5 ≤ M' 18 4 ∧ M' 18 7 ≤ 4 * (M' 18 5 - M' 18 6) ∧ M 18 6 ≤ M' 18 6 ∧ M' 18 1 = M 18 1 ∧ M 18 6 + z ≤ M' 18 6 ∧ (z = 1 → M 18 1 = 0)) ∧ (WZ z (isW w_less (absC M)) ∧ tookW w_less (absC M) = absC M')) := by
  obtain ⟨hI, hW⟩ := hJ
  have hF : Fr [18] M M := Fr.rf
  refine en_z (by decide +kernel) (fun ad => by exact Nat.le_of_ble_eq_true rfl) (fun D cy ad A p e s m args below meth c Q F hret => ?_)
  refine z_eq (ls' := [(0, .ref (ad 18)), (1, .ref (ad 1011))]) rfl rfl rfl ?_
  refine z_aload_n F dX6_takeWord_0 rfl (q := 0) rfl ?_
  refine z_aload_n F dX6_takeWord_1 rfl (q := 1) rfl ?_
  refine zv_i (rest := []) F (kp_X6_isWord_18_1011 l M ⟨hI, hW⟩ (by omega)) cs_X6_86 (T := TX6) (N := 9) (ci := 6) rfl gs_18 (by decide) (by decide) rfl rfl rfl (Nat.le_of_ble_eq_true rfl) dX6_takeWord_2 (fun v1 M2 rv1 hI p3 => ?_)
  obtain ⟨hI, hW⟩ := hI
  obtain ⟨⟨av1, bv1⟩, rfl, xp3, yp3⟩ := p3
  refine z_istore_n F dX6_takeWord_5 rfl (by decide) (ls' := [(2, ii v1), (0, .ref (ad 18)), (1, .ref (ad 1011))]) rfl ?_
  refine z_iload_n F dX6_takeWord_6 rfl (q := 0) rfl ?_
  refine z_if_eq (tgt := 14) F dX6_takeWord_7 (by decide +kernel) (by omega) (fun c4 => ?_) (fun c4 => ?_)
  · refine z_iload_n F dX6_takeWord_14 rfl (q := 0) rfl ?_
    exact hret _ _ 15 _ ⟨by omega, by omega⟩ ⟨hI, hW⟩ ⟨⟨by omega, by omega⟩, hF, (by omega), ⟨yp3, took_f (wz_f yp3 (by omega))⟩⟩ dX6_takeWord_15
  · refine z_aload_n F dX6_takeWord_10 rfl (q := 1) rfl ?_
    refine zv_v (rest := []) F (kp_X6_advance_18 l M ⟨hI, hW⟩ (by omega)) cs_X6_42 (T := TX6) (N := 9) (ci := 6) rfl gs_18 (by decide) (by decide) rfl rfl rfl (Nat.le_of_ble_eq_true rfl) dX6_takeWord_11 (fun M5 hI p6 => ?_)
    obtain ⟨hI, hW⟩ := hI
    obtain ⟨fp6, xp6, yp6⟩ := p6
    have hF := hF.call fp6 (by decide)
    refine z_iload_n F dX6_takeWord_14 rfl (q := 0) rfl ?_
    exact hret _ _ 15 _ ⟨by omega, by omega⟩ ⟨hI, hW⟩ ⟨⟨by omega, by omega⟩, hF, (by omega), ⟨yp3, took_t (wz_t yp3 (by omega)) (yp6 (by omega))⟩⟩ dX6_takeWord_15
set_option maxHeartbeats 4000000 in
set_option maxRecDepth 4000 in
theorem kp_X6_isWord_18_1012 (l : Launch) (M : Mem) (hJ : Iw M) (hp0 : M 18 6 ≤ M 18 5 ∧ M 18 5 ≤ M 18 4 ∧ M 18 7 ≤ 4 * (M 18 5 - M 18 6)) : CI l yX6_isWord cX6_isWord 3 (some .boolean) 5 (fun ad => [.ref (ad 18), .ref (ad 1012)]) M (fun z M' => (0 ≤ z ∧ z ≤ 1) ∧ M = M' ∧ (M 18 6 + z ≤ M 18 5 ∧ (z = 1 → M 18 1 = 0)) ∧ (WZ z (isW w_more (absC M)))) := by
  obtain ⟨hI, hW⟩ := hJ
  refine en_z (by decide +kernel) (fun ad => by exact Nat.le_of_ble_eq_true rfl) (fun D cy ad A p e s m args below meth c Q F hret => ?_)
  refine z_eq (ls' := [(0, .ref (ad 18)), (1, .ref (ad 1012))]) rfl rfl rfl ?_
  obtain ⟨u1, eu1⟩ : ∃ v : Int, v = M 18 1 := ⟨_, rfl⟩
  have ku1 : (-2147483648) ≤ u1 ∧ u1 ≤ 2147483647 := by have := hI.at (show Bd 18 1 = (-2147483648, 2147483647) from rfl); omega
  obtain ⟨u2, eu2⟩ : ∃ v : Int, v = M 18 2 := ⟨_, rfl⟩
  have ku2 : (-2147483648) ≤ u2 ∧ u2 ≤ 2147483647 := by have := hI.at (show Bd 18 2 = (-2147483648, 2147483647) from rfl); omega
  obtain ⟨u3, eu3⟩ : ∃ v : Int, v = M 18 4 := ⟨_, rfl⟩
  have ku3 : 0 ≤ u3 ∧ u3 ≤ 900 := by have := hI.at (show Bd 18 4 = (0, 900) from rfl); omega
  obtain ⟨u4, eu4⟩ : ∃ v : Int, v = M 18 5 := ⟨_, rfl⟩
  have ku4 : 0 ≤ u4 ∧ u4 ≤ 900 := by have := hI.at (show Bd 18 5 = (0, 900) from rfl); omega
  obtain ⟨u5, eu5⟩ : ∃ v : Int, v = M 18 6 := ⟨_, rfl⟩
  have ku5 : 0 ≤ u5 ∧ u5 ≤ 900 := by have := hI.at (show Bd 18 6 = (0, 900) from rfl); omega
  obtain ⟨u6, eu6⟩ : ∃ v : Int, v = M 18 7 := ⟨_, rfl⟩
  have ku6 : 0 ≤ u6 ∧ u6 ≤ 4 := by have := hI.at (show Bd 18 7 = (0, 4) from rfl); omega
  obtain ⟨u7, eu7⟩ : ∃ v : Int, v = M 18 8 := ⟨_, rfl⟩
  have ku7 : (-2147483648) ≤ u7 ∧ u7 ≤ 2147483647 := by have := hI.at (show Bd 18 8 = (-2147483648, 2147483647) from rfl); omega
  refine z_aload_n F dX6_isWord_0 rfl (q := 0) rfl ?_
  refine gf_X6_36 F hI gs_18 rfl bd_18_1 dX6_isWord_1 (fun v8 ev8 av8 bv8 => ?_)
  have zv8 : u1 = v8 := eu1.trans ev8.symm
  subst zv8
  refine z_if_ne (tgt := 31) F dX6_isWord_4 (by decide +kernel) (by omega) (fun c9 => ?_) (fun c9 => ?_)
  · refine z_iconst F dX6_isWord_31 ?_
    exact hret _ _ 32 _ ⟨by omega, by omega⟩ ⟨hI, hW⟩ ⟨⟨by omega, by omega⟩, rfl, (by omega), (iwC_e (k := 0) (iwC_n (by rw [wl_more, tkC_lt (c := 1) (by decide) (by decide)]; omega)) (fun q => by exfalso; omega) (by omega) (by omega))⟩ dX6_isWord_32
  · refine z_aload_n F dX6_isWord_7 rfl (q := 0) rfl ?_
    refine gf_X6_48 F hI gs_18 rfl bd_18_7 dX6_isWord_8 (fun v10 ev10 av10 bv10 => ?_)
    have zv10 : u6 = v10 := eu6.trans ev10.symm
    subst zv10
    refine z_iconst F dX6_isWord_11 ?_
    refine z_icmp_ne (tgt := 31) F dX6_isWord_12 (by decide +kernel) (by omega) (by omega) (fun c11 => ?_) (fun c11 => ?_)
    · refine z_iconst F dX6_isWord_31 ?_
      exact hret _ _ 32 _ ⟨by omega, by omega⟩ ⟨hI, hW⟩ ⟨⟨by omega, by omega⟩, rfl, (by omega), (iwC_e (k := 0) (iwC_n (by rw [wl_more, tkC_lt (c := 1) (by decide) (by decide)]; omega)) (fun q => by exfalso; omega) (by omega) (by omega))⟩ dX6_isWord_32
    · refine z_aload_n F dX6_isWord_15 rfl (q := 0) rfl ?_
      refine gf_X6_33 F hI gs_18 rfl bd_18_5 dX6_isWord_16 (fun v12 ev12 av12 bv12 => ?_)
      have zv12 : u4 = v12 := eu4.trans ev12.symm
      subst zv12
      refine z_aload_n F dX6_isWord_19 rfl (q := 0) rfl ?_
      refine gf_X6_57 F hI gs_18 rfl bd_18_6 dX6_isWord_20 (fun v13 ev13 av13 bv13 => ?_)
      have zv13 : u5 = v13 := eu5.trans ev13.symm
      subst zv13
      refine z_isub F dX6_isWord_23 ?_
      refine z_aload_n F dX6_isWord_24 rfl (q := 1) rfl ?_
      refine zvs_i (i := 12) (rest := [ii (u4 - u5)]) F (kS_len l M ⟨hI, hW⟩ 12 (by decide)) cs_X6_75 (by decide) (by decide) (by decide) rfl rfl rfl (Nat.le_of_ble_eq_true rfl) dX6_isWord_25 (fun v14 M9 rv14 hI9 pv14 => ?_)
      obtain ⟨ev14, rfl⟩ := pv14
      obtain rfl : v14 = 4 := ev14.trans (show ((sbyt.getD 12 []).length : Int) = 4 from by decide)
      clear hI9
      refine z_icmp_eq (tgt := 33) F dX6_isWord_28 (by decide +kernel) (by omega) (by omega) (fun c15 => ?_) (fun c15 => ?_)
      · refine z_iconst F dX6_isWord_33 ?_
        refine z_istore_n F dX6_isWord_34 rfl (by decide) (ls' := [(2, ii 0), (0, .ref (ad 18)), (1, .ref (ad 1012))]) rfl ?_
        refine z_loc [1, 2, 0] (ls' := [(0, .ref (ad 18)), (1, .ref (ad 1012)), (2, ii 0)]) rfl ?_
        suffices key35 : ∀ (n : Nat) (y17 : Int), 0 ≤ y17 → y17 ≤ 4 → (Iw_C M w_more 1 y17) → 4 - y17 < (n : Int) → Z D cy ad p l e (RMh 5) s m args below meth c A 3 0 0 Q 35 [(0, .ref (ad 18)), (1, .ref (ad 1012)), (2, ii y17)] [] M from key35 5 0 (by omega) (by omega) iwC_0 (by omega)
        intro n35
        induction n35 with
        | zero => intro y17 ay17 by17 i35_0 hn35; exfalso; omega
        | succ n35 ih35 =>
          intro y17 ay17 by17 i35_0 hn35
          refine z_iload_n F dX6_isWord_35 rfl (q := 2) rfl ?_
          refine z_aload_n F dX6_isWord_36 rfl (q := 1) rfl ?_
          refine zvs_i (i := 12) (rest := [ii y17]) F (kS_len l M ⟨hI, hW⟩ 12 (by decide)) cs_X6_75 (by decide) (by decide) (by decide) rfl rfl rfl (Nat.le_of_ble_eq_true rfl) dX6_isWord_37 (fun v18 M9 rv18 hI9 pv18 => ?_)
          obtain ⟨ev18, rfl⟩ := pv18
          obtain rfl : v18 = 4 := ev18.trans (show ((sbyt.getD 12 []).length : Int) = 4 from by decide)
          clear hI9
          refine z_icmp_ge (tgt := 70) F dX6_isWord_40 (by decide +kernel) (by omega) (by omega) (fun c19 => ?_) (fun c19 => ?_)
          · refine z_iconst F dX6_isWord_70 ?_
            exact hret _ _ 71 _ ⟨by omega, by omega⟩ ⟨hI, hW⟩ ⟨⟨by omega, by omega⟩, rfl, (by omega), (iwC_e i35_0 (fun q => by rw [wl_more, tkC_lt (c := 1) (by decide) (by decide)]; omega) (by omega) (by omega))⟩ dX6_isWord_71
          · refine z_aload_n F dX6_isWord_43 rfl (q := 0) rfl ?_
            refine rf_X6_22 F gs_18 rfl dX6_isWord_44 ?_
            refine z_aload_n F dX6_isWord_47 rfl (q := 0) rfl ?_
            refine gf_X6_57 F hI gs_18 rfl bd_18_6 dX6_isWord_48 (fun v20 ev20 av20 bv20 => ?_)
            have zv20 : u5 = v20 := eu5.trans ev20.symm
            subst zv20
            refine z_iload_n F dX6_isWord_51 rfl (q := 2) rfl ?_
            refine z_iadd F dX6_isWord_52 ?_
            have k21 : 0 ≤ (u5 + y17) ∧ (u5 + y17) ≤ 899 := by omega
            refine z_bald F hI gs_1 (by omega) (by omega) (by decide) bd_1 dX6_isWord_53 (fun v22 (ev22 : v22 = M 1 _) av22 bv22 => ?_)
            refine z_aload_n F dX6_isWord_54 rfl (q := 1) rfl ?_
            refine z_iload_n F dX6_isWord_55 rfl (q := 2) rfl ?_
            refine zvs_i (i := 12) (rest := [ii v22]) F (kS_chr l M ⟨hI, hW⟩ 12 (by decide) y17 (by omega) (show y17 < ((sbyt.getD 12 []).length : Int) from by rw [show ((sbyt.getD 12 []).length : Int) = 4 from by decide]; omega)) cs_X6_78 (by decide) (by decide) (by decide) rfl rfl rfl (Nat.le_of_ble_eq_true rfl) dX6_isWord_56 (fun v23 M9 rv23 hI9 pv23 => ?_)
            obtain ⟨⟨av23, bv23, ev23⟩, rfl⟩ := pv23
            clear hI9
            refine z_icmp_eq (tgt := 64) F dX6_isWord_59 (by decide +kernel) (by omega) (by omega) (fun c24 => ?_) (fun c24 => ?_)
            · refine z_iincN F dX6_isWord_64 (q := 2) rfl (by decide) (fun v25 ev25 => ?_)
              refine z_eq (ls' := [(2, ii v25), (0, .ref (ad 18)), (1, .ref (ad 1012))]) rfl rfl rfl ?_
              refine z_goto (tgt := 35) F dX6_isWord_67 (by decide +kernel) ?_
              refine z_loc [1, 2, 0] (ls' := [(0, .ref (ad 18)), (1, .ref (ad 1012)), (2, ii v25)]) rfl ?_
              exact ih35 v25 (by omega) (by omega) (by rw [show v25 = y17 + 1 from by omega]; exact iwC_s (z' := 1) (c1 := v22 % 256) i35_0 rfl (by omega) (by rw [wl_more]; omega) (by rw [wl_more]; omega) (show v22 % 256 = bC M ((M 18 6).toNat + (y17).toNat) from by show _ = M 1 _ % 256; rw [show (M 18 6).toNat + (y17).toNat = ((u5 + y17)).toNat from by omega, ← ev22]) (ev23.trans (sw_12 (y17).toNat (by omega)).1) (by have g9 := (sw_12 (y17).toNat (by omega)).2; omega)) (by omega)
            · refine z_iconst F dX6_isWord_62 ?_
              exact hret _ _ 63 _ ⟨by omega, by omega⟩ ⟨hI, hW⟩ ⟨⟨by omega, by omega⟩, rfl, (by omega), (iwC_e (iwC_s (z' := 0) (c1 := v22 % 256) i35_0 rfl (by omega) (by rw [wl_more]; omega) (by rw [wl_more]; omega) (show v22 % 256 = bC M ((M 18 6).toNat + (y17).toNat) from by show _ = M 1 _ % 256; rw [show (M 18 6).toNat + (y17).toNat = ((u5 + y17)).toNat from by omega, ← ev22]) (ev23.trans (sw_12 (y17).toNat (by omega)).1) (by have g9 := (sw_12 (y17).toNat (by omega)).2; omega)) (fun q => by exfalso; omega) (by omega) (by omega))⟩ dX6_isWord_63
      · refine z_iconst F dX6_isWord_31 ?_
        exact hret _ _ 32 _ ⟨by omega, by omega⟩ ⟨hI, hW⟩ ⟨⟨by omega, by omega⟩, rfl, (by omega), (iwC_e (k := 0) (iwC_n (by rw [wl_more, tkC_lt (c := 1) (by decide) (by decide)]; omega)) (fun q => by exfalso; omega) (by omega) (by omega))⟩ dX6_isWord_32
set_option maxHeartbeats 4000000 in
set_option maxRecDepth 4000 in
theorem kp_X6_needWord_18_1012 (l : Launch) (M : Mem) (hJ : Iw M) (hp0 : M 18 6 ≤ M 18 5 ∧ M 18 5 ≤ M 18 4 ∧ M 18 7 ≤ 4 * (M 18 5 - M 18 6)) : CV l yX6_needWord cX6_needWord 2 none 7 (fun ad => [.ref (ad 18), .ref (ad 1012)]) M (fun M' => Fr [18] M M' ∧ (M' 18 4 = M 18 4 ∧ M' 18 6 ≤ M' 18 5 ∧ M' 18 5 ≤ M' 18 4 ∧ M' 18 7 ≤ 4 * (M' 18 5 - M' 18 6) ∧ M 18 6 ≤ M' 18 6 ∧ (M' 18 1 = 0 → M 18 1 = 0)) ∧ (mustW w_more (absC M) = absC M')) := by
  obtain ⟨hI, hW⟩ := hJ
  have hF : Fr [18] M M := Fr.rf
  refine en_v (by decide +kernel) (fun ad => by exact Nat.le_of_ble_eq_true rfl) (fun D cy ad A p e s m args below meth c Q F hret => ?_)
  refine z_eq (ls' := [(0, .ref (ad 18)), (1, .ref (ad 1012))]) rfl rfl rfl ?_
  refine z_aload_n F dX6_needWord_0 rfl (q := 0) rfl ?_
  refine z_aload_n F dX6_needWord_1 rfl (q := 1) rfl ?_
  refine zv_i (rest := []) F (kp_X6_isWord_18_1012 l M ⟨hI, hW⟩ (by omega)) cs_X6_86 (T := TX6) (N := 9) (ci := 6) rfl gs_18 (by decide) (by decide) rfl rfl rfl (Nat.le_of_ble_eq_true rfl) dX6_needWord_2 (fun v1 M2 rv1 hI p3 => ?_)
  obtain ⟨hI, hW⟩ := hI
  obtain ⟨⟨av1, bv1⟩, rfl, xp3, yp3⟩ := p3
  refine z_if_eq (tgt := 15) F dX6_needWord_5 (by decide +kernel) (by omega) (fun c4 => ?_) (fun c4 => ?_)
  · refine z_aload_n F dX6_needWord_15 rfl (q := 0) rfl ?_
    refine zv_v (rest := []) F (kp_X6_refuse_18 l M ⟨hI, hW⟩) cs_X6_90 (T := TX6) (N := 9) (ci := 6) rfl gs_18 (by decide) (by decide) rfl rfl rfl (Nat.le_of_ble_eq_true rfl) dX6_needWord_16 (fun M5 hI p6 => ?_)
    obtain ⟨hI, hW⟩ := hI
    obtain ⟨fp6, xp6, yp6⟩ := p6
    have hF := hF.call fp6 (by decide)
    exact hret _ 19 _ ⟨hI, hW⟩ ⟨hF, (by omega), (must_f (wz_f yp3 (by omega)) yp6)⟩ dX6_needWord_19
  · refine z_aload_n F dX6_needWord_8 rfl (q := 0) rfl ?_
    refine zv_v (rest := []) F (kp_X6_advance_18 l M ⟨hI, hW⟩ (by omega)) cs_X6_42 (T := TX6) (N := 9) (ci := 6) rfl gs_18 (by decide) (by decide) rfl rfl rfl (Nat.le_of_ble_eq_true rfl) dX6_needWord_9 (fun M7 hI p8 => ?_)
    obtain ⟨hI, hW⟩ := hI
    obtain ⟨fp8, xp8, yp8⟩ := p8
    have hF := hF.call fp8 (by decide)
    refine z_goto (tgt := 19) F dX6_needWord_12 (by decide +kernel) ?_
    exact hret _ 19 _ ⟨hI, hW⟩ ⟨hF, (by omega), (must_t (wz_t yp3 (by omega)) (yp8 (by omega)))⟩ dX6_needWord_19
