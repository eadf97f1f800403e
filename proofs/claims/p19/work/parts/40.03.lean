theorem dX12_goesIn_0 : decode cX12_goesIn 0 = .ok (.aload_n 0, 1) := by decide +kernel
theorem dX12_goesIn_1 : decode cX12_goesIn 1 = .ok (.getfield 141, 3) := by decide +kernel
theorem dX12_goesIn_10 : decode cX12_goesIn 10 = .ok (.iconst 4, 1) := by decide +kernel
theorem dX12_goesIn_11 : decode cX12_goesIn 11 = .ok (.invokevirtual 133, 3) := by decide +kernel
theorem dX12_goesIn_14 : decode cX12_goesIn 14 = .ok (.aload_n 0, 1) := by decide +kernel
theorem dX12_goesIn_15 : decode cX12_goesIn 15 = .ok (.dup, 1) := by decide +kernel
theorem dX12_goesIn_16 : decode cX12_goesIn 16 = .ok (.getfield 141, 3) := by decide +kernel
theorem dX12_goesIn_19 : decode cX12_goesIn 19 = .ok (.iconst 1, 1) := by decide +kernel
theorem dX12_goesIn_20 : decode cX12_goesIn 20 = .ok (.iadd, 1) := by decide +kernel
theorem dX12_goesIn_21 : decode cX12_goesIn 21 = .ok (.putfield 141, 3) := by decide +kernel
theorem dX12_goesIn_24 : decode cX12_goesIn 24 = .ok (.aload_n 0, 1) := by decide +kernel
theorem dX12_goesIn_25 : decode cX12_goesIn 25 = .ok (.getfield 108, 3) := by decide +kernel
theorem dX12_goesIn_28 : decode cX12_goesIn 28 = .ok (.ifCond .ne 7, 3) := by decide +kernel
theorem dX12_goesIn_31 : decode cX12_goesIn 31 = .ok (.aload_n 0, 1) := by decide +kernel
theorem dX12_goesIn_32 : decode cX12_goesIn 32 = .ok (.invokevirtual 127, 3) := by decide +kernel
theorem dX12_goesIn_35 : decode cX12_goesIn 35 = .ok (.return_, 1) := by decide +kernel
theorem dX12_goesIn_4 : decode cX12_goesIn 4 = .ok (.bipush 6, 2) := by decide +kernel
theorem dX12_goesIn_6 : decode cX12_goesIn 6 = .ok (.if_icmp .ne 8, 3) := by decide +kernel
theorem dX12_goesIn_9 : decode cX12_goesIn 9 = .ok (.aload_n 0, 1) := by decide +kernel
theorem dX12_isWord_0 : decode cX12_isWord 0 = .ok (.aload_n 0, 1) := by decide +kernel
theorem dX12_isWord_1 : decode cX12_isWord 1 = .ok (.getfield 108, 3) := by decide +kernel
theorem dX12_isWord_11 : decode cX12_isWord 11 = .ok (.iconst 1, 1) := by decide +kernel
theorem dX12_isWord_12 : decode cX12_isWord 12 = .ok (.if_icmp .ne 23, 3) := by decide +kernel
theorem dX12_isWord_15 : decode cX12_isWord 15 = .ok (.aload_n 0, 1) := by decide +kernel
theorem dX12_isWord_16 : decode cX12_isWord 16 = .ok (.getfield 82, 3) := by decide +kernel
theorem dX12_isWord_19 : decode cX12_isWord 19 = .ok (.aload_n 0, 1) := by decide +kernel
theorem dX12_isWord_20 : decode cX12_isWord 20 = .ok (.getfield 85, 3) := by decide +kernel
theorem dX12_isWord_23 : decode cX12_isWord 23 = .ok (.isub, 1) := by decide +kernel
theorem dX12_isWord_24 : decode cX12_isWord 24 = .ok (.aload_n 1, 1) := by decide +kernel
theorem dX12_isWord_25 : decode cX12_isWord 25 = .ok (.invokevirtual 114, 3) := by decide +kernel
theorem dX12_isWord_28 : decode cX12_isWord 28 = .ok (.if_icmp .ne 7, 3) := by decide +kernel
theorem dX12_isWord_31 : decode cX12_isWord 31 = .ok (.iconst 1, 1) := by decide +kernel
theorem dX12_isWord_32 : decode cX12_isWord 32 = .ok (.goto 4, 3) := by decide +kernel
theorem dX12_isWord_35 : decode cX12_isWord 35 = .ok (.iconst 0, 1) := by decide +kernel
theorem dX12_isWord_36 : decode cX12_isWord 36 = .ok (.istore_n 2, 1) := by decide +kernel
theorem dX12_isWord_37 : decode cX12_isWord 37 = .ok (.iconst 0, 1) := by decide +kernel
theorem dX12_isWord_38 : decode cX12_isWord 38 = .ok (.istore_n 3, 1) := by decide +kernel
theorem dX12_isWord_39 : decode cX12_isWord 39 = .ok (.iload_n 2, 1) := by decide +kernel
theorem dX12_isWord_4 : decode cX12_isWord 4 = .ok (.ifCond .ne 31, 3) := by decide +kernel
theorem dX12_isWord_40 : decode cX12_isWord 40 = .ok (.ifCond .eq 42, 3) := by decide +kernel
theorem dX12_isWord_43 : decode cX12_isWord 43 = .ok (.iload_n 3, 1) := by decide +kernel
theorem dX12_isWord_44 : decode cX12_isWord 44 = .ok (.aload_n 1, 1) := by decide +kernel
theorem dX12_isWord_45 : decode cX12_isWord 45 = .ok (.invokevirtual 114, 3) := by decide +kernel
theorem dX12_isWord_48 : decode cX12_isWord 48 = .ok (.if_icmp .ge 34, 3) := by decide +kernel
theorem dX12_isWord_51 : decode cX12_isWord 51 = .ok (.aload_n 0, 1) := by decide +kernel
theorem dX12_isWord_52 : decode cX12_isWord 52 = .ok (.getfield 23, 3) := by decide +kernel
theorem dX12_isWord_55 : decode cX12_isWord 55 = .ok (.aload_n 0, 1) := by decide +kernel
theorem dX12_isWord_56 : decode cX12_isWord 56 = .ok (.getfield 85, 3) := by decide +kernel
theorem dX12_isWord_59 : decode cX12_isWord 59 = .ok (.iload_n 3, 1) := by decide +kernel
theorem dX12_isWord_60 : decode cX12_isWord 60 = .ok (.iadd, 1) := by decide +kernel
theorem dX12_isWord_61 : decode cX12_isWord 61 = .ok (.iaload, 1) := by decide +kernel
theorem dX12_isWord_62 : decode cX12_isWord 62 = .ok (.aload_n 1, 1) := by decide +kernel
theorem dX12_isWord_63 : decode cX12_isWord 63 = .ok (.iload_n 3, 1) := by decide +kernel
theorem dX12_isWord_64 : decode cX12_isWord 64 = .ok (.invokevirtual 119, 3) := by decide +kernel
theorem dX12_isWord_67 : decode cX12_isWord 67 = .ok (.if_icmp .ne 7, 3) := by decide +kernel
theorem dX12_isWord_7 : decode cX12_isWord 7 = .ok (.aload_n 0, 1) := by decide +kernel
theorem dX12_isWord_70 : decode cX12_isWord 70 = .ok (.iconst 1, 1) := by decide +kernel
theorem dX12_isWord_71 : decode cX12_isWord 71 = .ok (.goto 4, 3) := by decide +kernel
theorem dX12_isWord_74 : decode cX12_isWord 74 = .ok (.iconst 0, 1) := by decide +kernel
theorem dX12_isWord_75 : decode cX12_isWord 75 = .ok (.istore_n 2, 1) := by decide +kernel
theorem dX12_isWord_76 : decode cX12_isWord 76 = .ok (.iinc 3 1, 3) := by decide +kernel
theorem dX12_isWord_79 : decode cX12_isWord 79 = .ok (.goto (-40), 3) := by decide +kernel
theorem dX12_isWord_8 : decode cX12_isWord 8 = .ok (.getfield 88, 3) := by decide +kernel
theorem dX12_isWord_82 : decode cX12_isWord 82 = .ok (.iload_n 2, 1) := by decide +kernel
theorem dX12_isWord_83 : decode cX12_isWord 83 = .ok (.ireturn, 1) := by decide +kernel
theorem dX12_laysStep_0 : decode cX12_laysStep 0 = .ok (.aload_n 0, 1) := by decide +kernel
theorem dX12_laysStep_1 : decode cX12_laysStep 1 = .ok (.getfield 108, 3) := by decide +kernel
theorem dX12_laysStep_12 : decode cX12_laysStep 12 = .ok (.sipush 384, 3) := by decide +kernel
theorem dX12_laysStep_15 : decode cX12_laysStep 15 = .ok (.aload_n 0, 1) := by decide +kernel
theorem dX12_laysStep_16 : decode cX12_laysStep 16 = .ok (.getfield 13, 3) := by decide +kernel
theorem dX12_laysStep_19 : decode cX12_laysStep 19 = .ok (.bipush 6, 2) := by decide +kernel
theorem dX12_laysStep_21 : decode cX12_laysStep 21 = .ok (.iaload, 1) := by decide +kernel
theorem dX12_laysStep_22 : decode cX12_laysStep 22 = .ok (.iadd, 1) := by decide +kernel
theorem dX12_laysStep_23 : decode cX12_laysStep 23 = .ok (.iload_n 1, 1) := by decide +kernel
theorem dX12_laysStep_24 : decode cX12_laysStep 24 = .ok (.iastore, 1) := by decide +kernel
theorem dX12_laysStep_25 : decode cX12_laysStep 25 = .ok (.aload_n 0, 1) := by decide +kernel
theorem dX12_laysStep_26 : decode cX12_laysStep 26 = .ok (.getfield 13, 3) := by decide +kernel
theorem dX12_laysStep_29 : decode cX12_laysStep 29 = .ok (.bipush 6, 2) := by decide +kernel
theorem dX12_laysStep_31 : decode cX12_laysStep 31 = .ok (.dup2, 1) := by decide +kernel
theorem dX12_laysStep_32 : decode cX12_laysStep 32 = .ok (.iaload, 1) := by decide +kernel
theorem dX12_laysStep_33 : decode cX12_laysStep 33 = .ok (.iconst 1, 1) := by decide +kernel
theorem dX12_laysStep_34 : decode cX12_laysStep 34 = .ok (.iadd, 1) := by decide +kernel
theorem dX12_laysStep_35 : decode cX12_laysStep 35 = .ok (.iastore, 1) := by decide +kernel
theorem dX12_laysStep_36 : decode cX12_laysStep 36 = .ok (.return_, 1) := by decide +kernel
theorem dX12_laysStep_4 : decode cX12_laysStep 4 = .ok (.ifCond .eq 4, 3) := by decide +kernel
theorem dX12_laysStep_7 : decode cX12_laysStep 7 = .ok (.return_, 1) := by decide +kernel
theorem dX12_laysStep_8 : decode cX12_laysStep 8 = .ok (.aload_n 0, 1) := by decide +kernel
theorem dX12_laysStep_9 : decode cX12_laysStep 9 = .ok (.getfield 13, 3) := by decide +kernel
theorem dX12_took_0 : decode cX12_took 0 = .ok (.aload_n 0, 1) := by decide +kernel
theorem dX12_took_1 : decode cX12_took 1 = .ok (.aload_n 1, 1) := by decide +kernel
theorem dX12_took_10 : decode cX12_took 10 = .ok (.aload_n 0, 1) := by decide +kernel
theorem dX12_took_11 : decode cX12_took 11 = .ok (.invokevirtual 127, 3) := by decide +kernel
theorem dX12_took_14 : decode cX12_took 14 = .ok (.iload_n 2, 1) := by decide +kernel
theorem dX12_took_15 : decode cX12_took 15 = .ok (.ireturn, 1) := by decide +kernel
theorem dX12_took_2 : decode cX12_took 2 = .ok (.invokevirtual 123, 3) := by decide +kernel
theorem dX12_took_5 : decode cX12_took 5 = .ok (.istore_n 2, 1) := by decide +kernel
theorem dX12_took_6 : decode cX12_took 6 = .ok (.iload_n 2, 1) := by decide +kernel
theorem dX12_took_7 : decode cX12_took 7 = .ok (.ifCond .eq 7, 3) := by decide +kernel
set_option maxHeartbeats 4000000 in
set_option maxRecDepth 4000 in
theorem kp_X12_laysStep (l : Launch) (M : Mem) (hJ : Iw M) (x0 : Int) (hx0a : 10 ≤ x0) (hx0b : x0 ≤ 1999) (hp0 : ¬ M 131 12 = 0 ∨ M 133 6 ≤ 899) (hp1 : Wl M) (hp2 : ¬ M 131 12 = 0 ∨ 100 ≤ x0 ∧ 0 ≤ Cu M ∧ Cu M ≤ 63 ∨ x0 = 18 ∧ 1 ≤ Cu M ∧ Cu M ≤ 64 ∨ x0 < 100 ∧ ¬ x0 = 18 ∧ 2 ≤ Cu M ∧ Cu M ≤ 65) : CV l yX12_laysStep cX12_laysStep 2 none 1 (fun ad => [.ref (ad 131), ii x0]) M (fun M' => Fr [133] M M' ∧ (Wl M' ∧ (¬ M 131 12 = 0 ∧ M' 133 6 = M 133 6 ∧ Cu M' = Cu M ∨ M 131 12 = 0 ∧ M' 133 6 = M 133 6 + 1 ∧ (100 ≤ x0 ∧ Cu M' = Cu M + 1 ∨ x0 = 18 ∧ Cu M' = Cu M ∨ x0 < 100 ∧ ¬ x0 = 18 ∧ Cu M' = Cu M - 1)) ∧ M' 133 1 = M 133 1) ∧ (absR M' = absR M)) := by
  obtain ⟨hI, hW⟩ := hJ
  have hF : Fr [133] M M := Fr.rf
  refine en_v (by decide +kernel) (fun ad => by exact Nat.le_of_ble_eq_true rfl) (fun D cy ad A p e s m args below meth c Q F hret => ?_)
  refine z_eq (ls' := [(0, .ref (ad 131)), (1, ii x0)]) rfl rfl rfl ?_
  obtain ⟨u1, eu1⟩ : ∃ v : Int, v = M 133 6 := ⟨_, rfl⟩
  have ku1 : 0 ≤ u1 ∧ u1 ≤ 900 := by have := hI.at (show Bd 133 6 = (0, 900) from rfl); omega
  refine z_aload_n F dX12_laysStep_0 rfl (q := 0) rfl ?_
  refine gf_X12_108 F hI gs_131 rfl bd_131_12 dX12_laysStep_1 (fun v2 ev2 av2 bv2 => ?_)
  refine z_if_eq (tgt := 8) F dX12_laysStep_4 (by decide +kernel) (by omega) (fun c3 => ?_) (fun c3 => ?_)
  · refine z_aload_n F dX12_laysStep_8 rfl (q := 0) rfl ?_
    refine rf_X12_13 F gs_131 rfl dX12_laysStep_9 ?_
    refine z_sipush F dX12_laysStep_12 (by decide +kernel) ?_
    refine z_aload_n F dX12_laysStep_15 rfl (q := 0) rfl ?_
    refine rf_X12_13 F gs_131 rfl dX12_laysStep_16 ?_
    refine z_bipush F dX12_laysStep_19 (by decide +kernel) ?_
    refine z_iald F hI gs_133 (by omega) (by omega) (by decide) (show Bd 133 6 = (0, 900) from rfl) dX12_laysStep_21 (fun v4 (ev4 : v4 = M 133 6) av4 bv4 => ?_)
    have zv4 : u1 = v4 := eu1.trans ev4.symm
    subst zv4
    refine z_iadd F dX12_laysStep_22 ?_
    refine z_iload_n F dX12_laysStep_23 rfl (q := 1) rfl ?_
    have k5 : 384 ≤ (384 + u1) ∧ (384 + u1) ≤ 1283 := by omega
    refine z_iast F hI gs_133 (by omega) (by omega) (by decide) (bd_133.trans (kn_step (by omega))) dX12_laysStep_24 (by omega) (by omega) (fun M7 hI sf6 f6 => ?_)
    have tM7_133_1 : M7 133 1 = M 133 1 := f6 133 1 (fun q => by have := q.2; omega)
    have hF := hF.wrn f6 (by decide) (Or.inl (by omega))
    have hW : WFk M7 := hW.site f6 (by decide)
    refine z_aload_n F dX12_laysStep_25 rfl (q := 0) rfl ?_
    refine rf_X12_13 F gs_131 rfl dX12_laysStep_26 ?_
    refine z_bipush F dX12_laysStep_29 (by decide +kernel) ?_
    refine z_dup2 F dX12_laysStep_31 rfl rfl ?_
    refine z_iald F hI gs_133 (by omega) (by omega) (by decide) (show Bd 133 6 = (0, 900) from rfl) dX12_laysStep_32 (fun v8 (ev8 : v8 = M7 133 6) av8 bv8 => ?_)
    have q9 : u1 = M7 133 6 := eu1.trans (f6 133 6 (fun q => by omega)).symm
    have zv8 : u1 = v8 := q9.trans ev8.symm
    subst zv8
    refine z_iconst F dX12_laysStep_33 ?_
    refine z_iadd F dX12_laysStep_34 ?_
    have k10 : 0 ≤ (u1 + 1) ∧ (u1 + 1) ≤ 900 := by omega
    refine z_nm (fun v12 ev12 => ?_)
    refine z_iast F hI gs_133 (by omega) (by omega) (by decide) (show Bd 133 6 = (0, 900) from rfl) dX12_laysStep_35 (by omega) (by omega) (fun M13 hI sf11 f11 => ?_)
    have tM13_133_1 : M13 133 1 = M7 133 1 := f11 133 1 (fun q => absurd q.2 (by decide))
    have hF := hF.wrn f11 (by decide) (Or.inl (by omega))
    have hW : WFk M13 := hW.site f11 (by decide)
    have sf11 : M13 133 6 = v12 := sf11
    have hws := wl_step (x := x0) (n := u1) (by omega) eu1 sf6 f6 (sf11.trans (by omega)) f11
    have hdx := dl_cs x0
    exact hret _ 36 _ ⟨hI, hW⟩ ⟨hF, ⟨hws.2 hp1 (by omega) (by omega), by omega⟩, (absR_eq (fun j => hF.at (by decide)) (fun j => hF.at (by decide)))⟩ dX12_laysStep_36
  · exact hret _ 7 _ ⟨hI, hW⟩ ⟨hF, ⟨by assumption, by omega⟩, rfl⟩ dX12_laysStep_7
set_option maxHeartbeats 4000000 in
set_option maxRecDepth 4000 in
theorem kp_X12_blames (l : Launch) (M : Mem) (hJ : Iw M) (x0 : Int) (hx0a : 1 ≤ x0) (hx0b : x0 ≤ 4) : CV l yX12_blames cX12_blames 2 none 1 (fun ad => [.ref (ad 131), ii x0]) M (fun M' => Fr [131] M M' ∧ (1 ≤ M' 131 12 ∧ M' 131 7 = M 131 7 ∧ M' 131 8 = M 131 8 ∧ M' 131 9 = M 131 9 ∧ M' 131 10 = M 131 10 ∧ M' 131 16 = M 131 16) ∧ (blame x0 (absR M) = absR M')) := by
  obtain ⟨hI, hW⟩ := hJ
  have hF : Fr [131] M M := Fr.rf
  refine en_v (by decide +kernel) (fun ad => by exact Nat.le_of_ble_eq_true rfl) (fun D cy ad A p e s m args below meth c Q F hret => ?_)
  refine z_eq (ls' := [(0, .ref (ad 131)), (1, ii x0)]) rfl rfl rfl ?_
  refine z_aload_n F dX12_blames_0 rfl (q := 0) rfl ?_
  refine gf_X12_108 F hI gs_131 rfl bd_131_12 dX12_blames_1 (fun v1 ev1 av1 bv1 => ?_)
  refine z_if_eq (tgt := 8) F dX12_blames_4 (by decide +kernel) (by omega) (fun c2 => ?_) (fun c2 => ?_)
  · refine z_aload_n F dX12_blames_8 rfl (q := 0) rfl ?_
    refine z_aload_n F dX12_blames_9 rfl (q := 0) rfl ?_
    refine gf_X12_88 F hI gs_131 rfl bd_131_10 dX12_blames_10 (fun v3 ev3 av3 bv3 => ?_)
    refine z_iconst F dX12_blames_13 ?_
    refine z_icmp_ne (tgt := 21) F dX12_blames_14 (by decide +kernel) (by omega) (by omega) (fun c4 => ?_) (fun c4 => ?_)
    · refine z_iload_n F dX12_blames_21 rfl (q := 1) rfl ?_
      refine pf_X12_108 F hI gs_131 rfl bd_131_12 rfl rfl dX12_blames_22 (by omega) (by omega) (fun M6 hI sf5 f5 => ?_)
      have tM6_131_7 : M6 131 7 = M 131 7 := f5 131 7 (fun q => absurd q.2 (by decide))
      have tM6_131_8 : M6 131 8 = M 131 8 := f5 131 8 (fun q => absurd q.2 (by decide))
      have tM6_131_9 : M6 131 9 = M 131 9 := f5 131 9 (fun q => absurd q.2 (by decide))
      have tM6_131_10 : M6 131 10 = M 131 10 := f5 131 10 (fun q => absurd q.2 (by decide))
      have tM6_131_16 : M6 131 16 = M 131 16 := f5 131 16 (fun q => absurd q.2 (by decide))
      have tM6_133_6 : M6 133 6 = M 133 6 := f5 133 6 (fun q => absurd q.1 (by decide))
      have tM6_133_1 : M6 133 1 = M 133 1 := f5 133 1 (fun q => absurd q.1 (by decide))
      have tM6_131_13 : M6 131 13 = M 131 13 := f5 131 13 (fun q => absurd q.2 (by decide))
      have hF := hF.wrf f5 (by decide) (by decide)
      have hW : WFk M6 := hW.site f5 (by decide)
      refine z_aload_n F dX12_blames_25 rfl (q := 0) rfl ?_
      refine z_aload_n F dX12_blames_26 rfl (q := 0) rfl ?_
      refine gf_X12_85 F hI gs_131 rfl bd_131_9 dX12_blames_27 (fun v7 ev7 av7 bv7 => ?_)
      refine pf_X12_111 F hI gs_131 rfl bd_131_13 rfl rfl dX12_blames_30 (by omega) (by omega) (fun M9 hI sf8 f8 => ?_)
      have tM9_131_7 : M9 131 7 = M6 131 7 := f8 131 7 (fun q => absurd q.2 (by decide))
      have tM9_131_8 : M9 131 8 = M6 131 8 := f8 131 8 (fun q => absurd q.2 (by decide))
      have tM9_131_9 : M9 131 9 = M6 131 9 := f8 131 9 (fun q => absurd q.2 (by decide))
      have tM9_131_10 : M9 131 10 = M6 131 10 := f8 131 10 (fun q => absurd q.2 (by decide))
      have tM9_131_12 : M9 131 12 = M6 131 12 := f8 131 12 (fun q => absurd q.2 (by decide))
      have tM9_131_16 : M9 131 16 = M6 131 16 := f8 131 16 (fun q => absurd q.2 (by decide))
      have tM9_133_6 : M9 133 6 = M6 133 6 := f8 133 6 (fun q => absurd q.1 (by decide))
      have tM9_133_1 : M9 133 1 = M6 133 1 := f8 133 1 (fun q => absurd q.1 (by decide))
      have hF := hF.wrf f8 (by decide) (by decide)
      have hW : WFk M9 := hW.site f8 (by decide)
      have q10 : x0 = M9 131 12 := sf5.symm.trans (f8 131 12 (fun q => absurd q.2 (by decide))).symm
      exact hret _ 33 _ ⟨hI, hW⟩ ⟨hF, (by omega), (blameR (v := x0) (by omega) (by unfold tkR; omega) (by omega) (by omega) (by omega) (by omega) (fun j => hF.at (by decide)))⟩ dX12_blames_33
    · refine z_iconst F dX12_blames_17 ?_
      refine z_goto (tgt := 22) F dX12_blames_18 (by decide +kernel) ?_
      refine pf_X12_108 F hI gs_131 rfl bd_131_12 rfl rfl dX12_blames_22 (by omega) (by omega) (fun M12 hI sf11 f11 => ?_)
      have tM12_131_7 : M12 131 7 = M 131 7 := f11 131 7 (fun q => absurd q.2 (by decide))
      have tM12_131_8 : M12 131 8 = M 131 8 := f11 131 8 (fun q => absurd q.2 (by decide))
      have tM12_131_9 : M12 131 9 = M 131 9 := f11 131 9 (fun q => absurd q.2 (by decide))
      have tM12_131_10 : M12 131 10 = M 131 10 := f11 131 10 (fun q => absurd q.2 (by decide))
      have tM12_131_16 : M12 131 16 = M 131 16 := f11 131 16 (fun q => absurd q.2 (by decide))
      have tM12_133_6 : M12 133 6 = M 133 6 := f11 133 6 (fun q => absurd q.1 (by decide))
      have tM12_133_1 : M12 133 1 = M 133 1 := f11 133 1 (fun q => absurd q.1 (by decide))
      have tM12_131_13 : M12 131 13 = M 131 13 := f11 131 13 (fun q => absurd q.2 (by decide))
      have hF := hF.wrf f11 (by decide) (by decide)
      have hW : WFk M12 := hW.site f11 (by decide)
      refine z_aload_n F dX12_blames_25 rfl (q := 0) rfl ?_
      refine z_aload_n F dX12_blames_26 rfl (q := 0) rfl ?_
      refine gf_X12_85 F hI gs_131 rfl bd_131_9 dX12_blames_27 (fun v13 ev13 av13 bv13 => ?_)
      refine pf_X12_111 F hI gs_131 rfl bd_131_13 rfl rfl dX12_blames_30 (by omega) (by omega) (fun M15 hI sf14 f14 => ?_)
      have tM15_131_7 : M15 131 7 = M12 131 7 := f14 131 7 (fun q => absurd q.2 (by decide))
      have tM15_131_8 : M15 131 8 = M12 131 8 := f14 131 8 (fun q => absurd q.2 (by decide))
      have tM15_131_9 : M15 131 9 = M12 131 9 := f14 131 9 (fun q => absurd q.2 (by decide))
      have tM15_131_10 : M15 131 10 = M12 131 10 := f14 131 10 (fun q => absurd q.2 (by decide))
      have tM15_131_12 : M15 131 12 = M12 131 12 := f14 131 12 (fun q => absurd q.2 (by decide))
      have tM15_131_16 : M15 131 16 = M12 131 16 := f14 131 16 (fun q => absurd q.2 (by decide))
      have tM15_133_6 : M15 133 6 = M12 133 6 := f14 133 6 (fun q => absurd q.1 (by decide))
      have tM15_133_1 : M15 133 1 = M12 133 1 := f14 133 1 (fun q => absurd q.1 (by decide))
      have hF := hF.wrf f14 (by decide) (by decide)
      have hW : WFk M15 := hW.site f14 (by decide)
      have q16 : 1 = M15 131 12 := sf11.symm.trans (f14 131 12 (fun q => absurd q.2 (by decide))).symm
      exact hret _ 33 _ ⟨hI, hW⟩ ⟨hF, (by omega), (blameR (v := 1) (by omega) (by unfold tkR; omega) (by omega) (by omega) (by omega) (by omega) (fun j => hF.at (by decide)))⟩ dX12_blames_33
  · exact hret _ 7 _ ⟨hI, hW⟩ ⟨hF, (by omega), (blame_f (by rw [vR_fl]; omega))⟩ dX12_blames_7
set_option maxHeartbeats 4000000 in
set_option maxRecDepth 4000 in
theorem kp_X12_goesIn (l : Launch) (M : Mem) (hJ : Iw M) (hp0 : 0 ≤ M 131 9 ∧ M 131 9 ≤ M 131 8 ∧ M 131 8 ≤ M 131 7 ∧ M 131 7 ≤ 900 ∧ (M 131 10 = 0 ∨ M 131 9 < M 131 8)) (hp1 : 0 ≤ M 131 16 ∧ M 131 16 ≤ 6) : CV l yX12_goesIn cX12_goesIn 1 none 3 (fun ad => [.ref (ad 131)]) M (fun M' => Fr [131] M M' ∧ (M' 131 7 = M 131 7 ∧ M' 131 16 = M 131 16 + 1 ∧ M 131 9 ≤ M' 131 9 ∧ 0 ≤ M' 131 9 ∧ M' 131 9 ≤ M' 131 8 ∧ M' 131 8 ≤ M' 131 7 ∧ M' 131 7 ≤ 900 ∧ (M' 131 10 = 0 ∨ M' 131 9 < M' 131 8) ∧ (M 131 16 = 6 → ¬ M' 131 12 = 0) ∧ (M' 131 12 = 0 → M 131 12 = 0 ∧ M 131 8 ≤ M' 131 9)) ∧ (Im (M 131 12 = 0) (Im (¬ M 131 10 = 3) (goIn (M 131 16) (absR M) = absR M')))) := by
  obtain ⟨hI, hW⟩ := hJ
  have hF : Fr [131] M M := Fr.rf
  refine en_v (by decide +kernel) (fun ad => by exact Nat.le_of_ble_eq_true rfl) (fun D cy ad A p e s m args below meth c Q F hret => ?_)
  refine z_eq (ls' := [(0, .ref (ad 131))]) rfl rfl rfl ?_
  refine z_aload_n F dX12_goesIn_0 rfl (q := 0) rfl ?_
  refine gf_X12_141 F hI gs_131 rfl bd_131_16 dX12_goesIn_1 (fun v1 ev1 av1 bv1 => ?_)
  refine z_bipush F dX12_goesIn_4 (by decide +kernel) ?_
  refine z_icmp_ne (tgt := 14) F dX12_goesIn_6 (by decide +kernel) (by omega) (by omega) (fun c2 => ?_) (fun c2 => ?_)
  · refine z_aload_n F dX12_goesIn_14 rfl (q := 0) rfl ?_
    refine z_dup F dX12_goesIn_15 rfl ?_
    refine gf_X12_141 F hI gs_131 rfl bd_131_16 dX12_goesIn_16 (fun v3 ev3 av3 bv3 => ?_)
    have zv3 : v1 = v3 := ev1.trans ev3.symm
    subst zv3
    refine z_iconst F dX12_goesIn_19 ?_
    refine z_iadd F dX12_goesIn_20 ?_
    refine z_wrap (fun v4 rv4 wv4 => ?_)
    refine pf_X12_141 F hI gs_131 rfl bd_131_16 rfl rfl dX12_goesIn_21 (by omega) (by omega) (fun M6 hI sf5 f5 => ?_)
    have tM6_131_7 : M6 131 7 = M 131 7 := f5 131 7 (fun q => absurd q.2 (by decide))
    have tM6_131_8 : M6 131 8 = M 131 8 := f5 131 8 (fun q => absurd q.2 (by decide))
    have tM6_131_9 : M6 131 9 = M 131 9 := f5 131 9 (fun q => absurd q.2 (by decide))
    have tM6_131_10 : M6 131 10 = M 131 10 := f5 131 10 (fun q => absurd q.2 (by decide))
    have tM6_131_12 : M6 131 12 = M 131 12 := f5 131 12 (fun q => absurd q.2 (by decide))
    have tM6_133_6 : M6 133 6 = M 133 6 := f5 133 6 (fun q => absurd q.1 (by decide))
    have tM6_133_1 : M6 133 1 = M 133 1 := f5 133 1 (fun q => absurd q.1 (by decide))
    have hF := hF.wrf f5 (by decide) (by decide)
    have hW : WFk M6 := hW.site f5 (by decide)
    refine z_aload_n F dX12_goesIn_24 rfl (q := 0) rfl ?_
    refine gf_X12_108 F hI gs_131 rfl bd_131_12 dX12_goesIn_25 (fun v7 ev7 av7 bv7 => ?_)
    refine z_if_ne (tgt := 35) F dX12_goesIn_28 (by decide +kernel) (by omega) (fun c8 => ?_) (fun c8 => ?_)
    · exact hret _ 35 _ ⟨hI, hW⟩ ⟨hF, (by omega), (fun h0 ht => by exfalso; omega)⟩ dX12_goesIn_35
    · refine z_aload_n F dX12_goesIn_31 rfl (q := 0) rfl ?_
      refine zv_v (rest := []) F (kp_X12_readsOn l M6 ⟨hI, hW⟩ (by omega)) cs_X12_127 (T := TX12) (N := 44) (ci := 12) rfl gs_131 (by decide) (by decide) rfl rfl rfl (Nat.le_of_ble_eq_true rfl) dX12_goesIn_32 (fun M9 hI p10 => ?_)
      obtain ⟨hI, hW⟩ := hI
      obtain ⟨fp10, xp10, yp10⟩ := p10
      have hF := hF.call fp10 (by decide)
      have tM9_133_6 : M9 133 6 = M6 133 6 := fp10.at (by decide)
      have tM9_133_1 : M9 133 1 = M6 133 1 := fp10.at (by decide)
      exact hret _ 35 _ ⟨hI, hW⟩ ⟨hF, (by omega), (fun h0 ht => go_a (by omega) ((congrArg adv (absR_16 f5).symm).trans (yp10 (by omega))))⟩ dX12_goesIn_35
  · refine z_aload_n F dX12_goesIn_9 rfl (q := 0) rfl ?_
    refine z_iconst F dX12_goesIn_10 ?_
    refine zv_v (rest := []) F (kp_X12_blames l M ⟨hI, hW⟩ 4 (by omega) (by omega)) cs_X12_133 (T := TX12) (N := 44) (ci := 12) rfl gs_131 (by decide) (by decide) rfl rfl rfl (Nat.le_of_ble_eq_true rfl) dX12_goesIn_11 (fun M11 hI p12 => ?_)
    obtain ⟨hI, hW⟩ := hI
    obtain ⟨fp12, xp12, yp12⟩ := p12
    have hF := hF.call fp12 (by decide)
    have tM11_133_6 : M11 133 6 = M 133 6 := fp12.at (by decide)
    have tM11_133_1 : M11 133 1 = M 133 1 := fp12.at (by decide)
    refine z_aload_n F dX12_goesIn_14 rfl (q := 0) rfl ?_
    refine z_dup F dX12_goesIn_15 rfl ?_
    refine gf_X12_141 F hI gs_131 rfl bd_131_16 dX12_goesIn_16 (fun v13 ev13 av13 bv13 => ?_)
    refine z_iconst F dX12_goesIn_19 ?_
    refine z_iadd F dX12_goesIn_20 ?_
    refine z_wrap (fun v14 rv14 wv14 => ?_)
    refine pf_X12_141 F hI gs_131 rfl bd_131_16 rfl rfl dX12_goesIn_21 (by omega) (by omega) (fun M16 hI sf15 f15 => ?_)
    have tM16_131_7 : M16 131 7 = M11 131 7 := f15 131 7 (fun q => absurd q.2 (by decide))
    have tM16_131_8 : M16 131 8 = M11 131 8 := f15 131 8 (fun q => absurd q.2 (by decide))
    have tM16_131_9 : M16 131 9 = M11 131 9 := f15 131 9 (fun q => absurd q.2 (by decide))
    have tM16_131_10 : M16 131 10 = M11 131 10 := f15 131 10 (fun q => absurd q.2 (by decide))
    have tM16_131_12 : M16 131 12 = M11 131 12 := f15 131 12 (fun q => absurd q.2 (by decide))
    have tM16_133_6 : M16 133 6 = M11 133 6 := f15 133 6 (fun q => absurd q.1 (by decide))
    have tM16_133_1 : M16 133 1 = M11 133 1 := f15 133 1 (fun q => absurd q.1 (by decide))
    have hF := hF.wrf f15 (by decide) (by decide)
    have hW : WFk M16 := hW.site f15 (by decide)
    refine z_aload_n F dX12_goesIn_24 rfl (q := 0) rfl ?_
    refine gf_X12_108 F hI gs_131 rfl bd_131_12 dX12_goesIn_25 (fun v17 ev17 av17 bv17 => ?_)
    refine z_if_ne (tgt := 35) F dX12_goesIn_28 (by decide +kernel) (by omega) (fun c18 => ?_) (fun c18 => ?_)
    · exact hret _ 35 _ ⟨hI, hW⟩ ⟨hF, (by omega), (fun h0 ht => go_4 (by omega) ((bl_set (by rw [(vR_tk h0).1]; exact ht) yp12).trans (absR_16 f15).symm))⟩ dX12_goesIn_35
    · refine z_aload_n F dX12_goesIn_31 rfl (q := 0) rfl ?_
      refine zv_v (rest := []) F (kp_X12_readsOn l M16 ⟨hI, hW⟩ (by omega)) cs_X12_127 (T := TX12) (N := 44) (ci := 12) rfl gs_131 (by decide) (by decide) rfl rfl rfl (Nat.le_of_ble_eq_true rfl) dX12_goesIn_32 (fun M19 hI p20 => ?_)
      obtain ⟨hI, hW⟩ := hI
      obtain ⟨fp20, xp20, yp20⟩ := p20
      have hF := hF.call fp20 (by decide)
      have tM19_133_6 : M19 133 6 = M16 133 6 := fp20.at (by decide)
      have tM19_133_1 : M19 133 1 = M16 133 1 := fp20.at (by decide)
      exact hret _ 35 _ ⟨hI, hW⟩ ⟨hF, (by omega), (fun h0 ht => by exfalso; omega)⟩ dX12_goesIn_35
set_option maxHeartbeats 4000000 in
set_option maxRecDepth 4000 in
theorem kp_X12_isWord_131_1075 (l : Launch) (M : Mem) (hJ : Iw M) (hp0 : 0 ≤ M 131 9 ∧ M 131 9 ≤ M 131 8 ∧ M 131 8 ≤ M 131 7 ∧ M 131 7 ≤ 900 ∧ (M 131 10 = 0 ∨ M 131 9 < M 131 8)) : CI l yX12_isWord cX12_isWord 4 (some .boolean) 5 (fun ad => [.ref (ad 131), .ref (ad 1075)]) M (fun z M' => (0 ≤ z ∧ z ≤ 1) ∧ M = M' ∧ (z = 1 → M 131 12 = 0 ∧ M 131 10 = 1) ∧ (WZ z (isW w_a (absR M)))) := by
  obtain ⟨hI, hW⟩ := hJ
  refine en_z (by decide +kernel) (fun ad => by exact Nat.le_of_ble_eq_true rfl) (fun D cy ad A p e s m args below meth c Q F hret => ?_)
  refine z_eq (ls' := [(0, .ref (ad 131)), (1, .ref (ad 1075))]) rfl rfl rfl ?_
  obtain ⟨u1, eu1⟩ : ∃ v : Int, v = M 131 7 := ⟨_, rfl⟩
  have ku1 : 0 ≤ u1 ∧ u1 ≤ 900 := by have := hI.at (show Bd 131 7 = (0, 900) from rfl); omega
  obtain ⟨u2, eu2⟩ : ∃ v : Int, v = M 131 8 := ⟨_, rfl⟩
  have ku2 : 0 ≤ u2 ∧ u2 ≤ 900 := by have := hI.at (show Bd 131 8 = (0, 900) from rfl); omega
  obtain ⟨u3, eu3⟩ : ∃ v : Int, v = M 131 9 := ⟨_, rfl⟩
  have ku3 : 0 ≤ u3 ∧ u3 ≤ 900 := by have := hI.at (show Bd 131 9 = (0, 900) from rfl); omega
  obtain ⟨u4, eu4⟩ : ∃ v : Int, v = M 131 10 := ⟨_, rfl⟩
  have ku4 : (-2147483648) ≤ u4 ∧ u4 ≤ 2147483647 := by have := hI.at (show Bd 131 10 = (-2147483648, 2147483647) from rfl); omega
  obtain ⟨u5, eu5⟩ : ∃ v : Int, v = M 131 12 := ⟨_, rfl⟩
  have ku5 : 0 ≤ u5 ∧ u5 ≤ 4 := by have := hI.at (show Bd 131 12 = (0, 4) from rfl); omega
  obtain ⟨u6, eu6⟩ : ∃ v : Int, v = M 131 16 := ⟨_, rfl⟩
  have ku6 : (-2147483648) ≤ u6 ∧ u6 ≤ 2147483647 := by have := hI.at (show Bd 131 16 = (-2147483648, 2147483647) from rfl); omega
  refine z_aload_n F dX12_isWord_0 rfl (q := 0) rfl ?_
  refine gf_X12_108 F hI gs_131 rfl bd_131_12 dX12_isWord_1 (fun v7 ev7 av7 bv7 => ?_)
  have zv7 : u5 = v7 := eu5.trans ev7.symm
  subst zv7
  refine z_if_ne (tgt := 35) F dX12_isWord_4 (by decide +kernel) (by omega) (fun c8 => ?_) (fun c8 => ?_)
  · refine z_iconst F dX12_isWord_35 ?_
    refine z_istore_n F dX12_isWord_36 rfl (by decide) (ls' := [(2, ii 0), (0, .ref (ad 131)), (1, .ref (ad 1075))]) rfl ?_
    refine z_iconst F dX12_isWord_37 ?_
    refine z_istore_n F dX12_isWord_38 rfl (by decide) (ls' := [(3, ii 0), (2, ii 0), (0, .ref (ad 131)), (1, .ref (ad 1075))]) rfl ?_
    refine z_loc [2, 3, 1, 0] (ls' := [(0, .ref (ad 131)), (1, .ref (ad 1075)), (2, ii 0), (3, ii 0)]) rfl ?_
    suffices key39 : ∀ (n : Nat) (y10 : Int) (y11 : Int), 0 ≤ y10 → y10 ≤ 0 → 0 ≤ y11 → y11 ≤ 0 → (y10 = 1 → M 131 12 = 0 ∧ M 131 10 = 1 ∧ M 131 8 - M 131 9 = 1) → (Iw_R M w_a y10 y11) → 0 < (n : Int) → Z D cy ad p l e (RMh 5) s m args below meth c A 4 0 0 Q 39 [(0, .ref (ad 131)), (1, .ref (ad 1075)), (2, ii y10), (3, ii y11)] [] M from key39 1 0 0 (by omega) (by omega) (by omega) (by omega) (by omega) (iwR_n (by rw [wl_a]; unfold tkR; omega)) (by omega)
    intro n39
    induction n39 with
    | zero => intro y10 y11 ay10 by10 ay11 by11 i39_0 i39_1 hn39; exfalso; omega
    | succ n39 ih39 =>
      intro y10 y11 ay10 by10 ay11 by11 i39_0 i39_1 hn39
      refine z_iload_n F dX12_isWord_39 rfl (q := 2) rfl ?_
      refine z_if_eq (tgt := 82) F dX12_isWord_40 (by decide +kernel) (by omega) (fun c12 => ?_) (fun c12 => by exfalso; omega)
      refine z_iload_n F dX12_isWord_82 rfl (q := 2) rfl ?_
      exact hret _ _ 83 _ ⟨by omega, by omega⟩ ⟨hI, hW⟩ ⟨⟨by omega, by omega⟩, rfl, (by omega), (iwR_e i39_1 (by rw [wl_a]; unfold tkR; omega) (by omega) (by omega))⟩ dX12_isWord_83
  · refine z_aload_n F dX12_isWord_7 rfl (q := 0) rfl ?_
    refine gf_X12_88 F hI gs_131 rfl bd_131_10 dX12_isWord_8 (fun v13 ev13 av13 bv13 => ?_)
    have zv13 : u4 = v13 := eu4.trans ev13.symm
    subst zv13
    refine z_iconst F dX12_isWord_11 ?_
    refine z_icmp_ne (tgt := 35) F dX12_isWord_12 (by decide +kernel) (by omega) (by omega) (fun c14 => ?_) (fun c14 => ?_)
    · refine z_iconst F dX12_isWord_35 ?_
      refine z_istore_n F dX12_isWord_36 rfl (by decide) (ls' := [(2, ii 0), (0, .ref (ad 131)), (1, .ref (ad 1075))]) rfl ?_
      refine z_iconst F dX12_isWord_37 ?_
      refine z_istore_n F dX12_isWord_38 rfl (by decide) (ls' := [(3, ii 0), (2, ii 0), (0, .ref (ad 131)), (1, .ref (ad 1075))]) rfl ?_
      refine z_loc [2, 3, 1, 0] (ls' := [(0, .ref (ad 131)), (1, .ref (ad 1075)), (2, ii 0), (3, ii 0)]) rfl ?_
      suffices key39 : ∀ (n : Nat) (y16 : Int) (y17 : Int), 0 ≤ y16 → y16 ≤ 0 → 0 ≤ y17 → y17 ≤ 0 → (y16 = 1 → M 131 12 = 0 ∧ M 131 10 = 1 ∧ M 131 8 - M 131 9 = 1) → (Iw_R M w_a y16 y17) → 0 < (n : Int) → Z D cy ad p l e (RMh 5) s m args below meth c A 4 0 0 Q 39 [(0, .ref (ad 131)), (1, .ref (ad 1075)), (2, ii y16), (3, ii y17)] [] M from key39 1 0 0 (by omega) (by omega) (by omega) (by omega) (by omega) (iwR_n (by rw [wl_a]; unfold tkR; omega)) (by omega)
      intro n39
      induction n39 with
      | zero => intro y16 y17 ay16 by16 ay17 by17 i39_0 i39_1 hn39; exfalso; omega
      | succ n39 ih39 =>
        intro y16 y17 ay16 by16 ay17 by17 i39_0 i39_1 hn39
        refine z_iload_n F dX12_isWord_39 rfl (q := 2) rfl ?_
        refine z_if_eq (tgt := 82) F dX12_isWord_40 (by decide +kernel) (by omega) (fun c18 => ?_) (fun c18 => by exfalso; omega)
        refine z_iload_n F dX12_isWord_82 rfl (q := 2) rfl ?_
        exact hret _ _ 83 _ ⟨by omega, by omega⟩ ⟨hI, hW⟩ ⟨⟨by omega, by omega⟩, rfl, (by omega), (iwR_e i39_1 (by rw [wl_a]; unfold tkR; omega) (by omega) (by omega))⟩ dX12_isWord_83
    · refine z_aload_n F dX12_isWord_15 rfl (q := 0) rfl ?_
      refine gf_X12_82 F hI gs_131 rfl bd_131_8 dX12_isWord_16 (fun v19 ev19 av19 bv19 => ?_)
      have zv19 : u2 = v19 := eu2.trans ev19.symm
      subst zv19
      refine z_aload_n F dX12_isWord_19 rfl (q := 0) rfl ?_
      refine gf_X12_85 F hI gs_131 rfl bd_131_9 dX12_isWord_20 (fun v20 ev20 av20 bv20 => ?_)
      have zv20 : u3 = v20 := eu3.trans ev20.symm
      subst zv20
      refine z_isub F dX12_isWord_23 ?_
      refine z_aload_n F dX12_isWord_24 rfl (q := 1) rfl ?_
      refine zvs_i (i := 75) (rest := [ii (u2 - u3)]) F (kS_len l M ⟨hI, hW⟩ 75 (by decide)) cs_X12_114 (by decide) (by decide) (by decide) rfl rfl rfl (Nat.le_of_ble_eq_true rfl) dX12_isWord_25 (fun v21 M9 rv21 hI9 pv21 => ?_)
      obtain ⟨ev21, rfl⟩ := pv21
      obtain rfl : v21 = 1 := ev21.trans (show ((sbyt.getD 75 []).length : Int) = 1 from by decide)
      clear hI9
      refine z_icmp_ne (tgt := 35) F dX12_isWord_28 (by decide +kernel) (by omega) (by omega) (fun c22 => ?_) (fun c22 => ?_)
      · refine z_iconst F dX12_isWord_35 ?_
        refine z_istore_n F dX12_isWord_36 rfl (by decide) (ls' := [(2, ii 0), (0, .ref (ad 131)), (1, .ref (ad 1075))]) rfl ?_
        refine z_iconst F dX12_isWord_37 ?_
        refine z_istore_n F dX12_isWord_38 rfl (by decide) (ls' := [(3, ii 0), (2, ii 0), (0, .ref (ad 131)), (1, .ref (ad 1075))]) rfl ?_
        refine z_loc [2, 3, 1, 0] (ls' := [(0, .ref (ad 131)), (1, .ref (ad 1075)), (2, ii 0), (3, ii 0)]) rfl ?_
        suffices key39 : ∀ (n : Nat) (y24 : Int) (y25 : Int), 0 ≤ y24 → y24 ≤ 0 → 0 ≤ y25 → y25 ≤ 0 → (y24 = 1 → M 131 12 = 0 ∧ M 131 10 = 1 ∧ M 131 8 - M 131 9 = 1) → (Iw_R M w_a y24 y25) → 0 < (n : Int) → Z D cy ad p l e (RMh 5) s m args below meth c A 4 0 0 Q 39 [(0, .ref (ad 131)), (1, .ref (ad 1075)), (2, ii y24), (3, ii y25)] [] M from key39 1 0 0 (by omega) (by omega) (by omega) (by omega) (by omega) (iwR_n (by rw [wl_a]; unfold tkR; omega)) (by omega)
        intro n39
        induction n39 with
        | zero => intro y24 y25 ay24 by24 ay25 by25 i39_0 i39_1 hn39; exfalso; omega
        | succ n39 ih39 =>
          intro y24 y25 ay24 by24 ay25 by25 i39_0 i39_1 hn39
          refine z_iload_n F dX12_isWord_39 rfl (q := 2) rfl ?_
          refine z_if_eq (tgt := 82) F dX12_isWord_40 (by decide +kernel) (by omega) (fun c26 => ?_) (fun c26 => by exfalso; omega)
          refine z_iload_n F dX12_isWord_82 rfl (q := 2) rfl ?_
          exact hret _ _ 83 _ ⟨by omega, by omega⟩ ⟨hI, hW⟩ ⟨⟨by omega, by omega⟩, rfl, (by omega), (iwR_e i39_1 (by rw [wl_a]; unfold tkR; omega) (by omega) (by omega))⟩ dX12_isWord_83
      · refine z_iconst F dX12_isWord_31 ?_
        refine z_goto (tgt := 36) F dX12_isWord_32 (by decide +kernel) ?_
        refine z_istore_n F dX12_isWord_36 rfl (by decide) (ls' := [(2, ii 1), (0, .ref (ad 131)), (1, .ref (ad 1075))]) rfl ?_
        refine z_iconst F dX12_isWord_37 ?_
        refine z_istore_n F dX12_isWord_38 rfl (by decide) (ls' := [(3, ii 0), (2, ii 1), (0, .ref (ad 131)), (1, .ref (ad 1075))]) rfl ?_
        refine z_loc [2, 3, 1, 0] (ls' := [(0, .ref (ad 131)), (1, .ref (ad 1075)), (2, ii 1), (3, ii 0)]) rfl ?_
        suffices key39 : ∀ (n : Nat) (y28 : Int) (y29 : Int), 0 ≤ y28 → y28 ≤ 1 → 0 ≤ y29 → y29 ≤ 1 → (y28 = 1 → M 131 12 = 0 ∧ M 131 10 = 1 ∧ M 131 8 - M 131 9 = 1) → (Iw_R M w_a y28 y29) → 1 - y29 < (n : Int) → Z D cy ad p l e (RMh 5) s m args below meth c A 4 0 0 Q 39 [(0, .ref (ad 131)), (1, .ref (ad 1075)), (2, ii y28), (3, ii y29)] [] M from key39 2 1 0 (by omega) (by omega) (by omega) (by omega) (by omega) iwR_0 (by omega)
        intro n39
        induction n39 with
        | zero => intro y28 y29 ay28 by28 ay29 by29 i39_0 i39_1 hn39; exfalso; omega
        | succ n39 ih39 =>
          intro y28 y29 ay28 by28 ay29 by29 i39_0 i39_1 hn39
          refine z_iload_n F dX12_isWord_39 rfl (q := 2) rfl ?_
          refine z_if_eq (tgt := 82) F dX12_isWord_40 (by decide +kernel) (by omega) (fun c30 => ?_) (fun c30 => ?_)
          · refine z_iload_n F dX12_isWord_82 rfl (q := 2) rfl ?_
            exact hret _ _ 83 _ ⟨by omega, by omega⟩ ⟨hI, hW⟩ ⟨⟨by omega, by omega⟩, rfl, (by omega), (iwR_e i39_1 (by rw [wl_a]; unfold tkR; omega) (by omega) (by omega))⟩ dX12_isWord_83
          · refine z_iload_n F dX12_isWord_43 rfl (q := 3) rfl ?_
            refine z_aload_n F dX12_isWord_44 rfl (q := 1) rfl ?_
            refine zvs_i (i := 75) (rest := [ii y29]) F (kS_len l M ⟨hI, hW⟩ 75 (by decide)) cs_X12_114 (by decide) (by decide) (by decide) rfl rfl rfl (Nat.le_of_ble_eq_true rfl) dX12_isWord_45 (fun v31 M9 rv31 hI9 pv31 => ?_)
            obtain ⟨ev31, rfl⟩ := pv31
            obtain rfl : v31 = 1 := ev31.trans (show ((sbyt.getD 75 []).length : Int) = 1 from by decide)
            clear hI9
            refine z_icmp_ge (tgt := 82) F dX12_isWord_48 (by decide +kernel) (by omega) (by omega) (fun c32 => ?_) (fun c32 => ?_)
            · refine z_iload_n F dX12_isWord_82 rfl (q := 2) rfl ?_
              exact hret _ _ 83 _ ⟨by omega, by omega⟩ ⟨hI, hW⟩ ⟨⟨by omega, by omega⟩, rfl, (by omega), (iwR_e i39_1 (by rw [wl_a]; unfold tkR; omega) (by omega) (by omega))⟩ dX12_isWord_83
            · refine z_aload_n F dX12_isWord_51 rfl (q := 0) rfl ?_
              refine rf_X12_23 F gs_131 rfl dX12_isWord_52 ?_
              refine z_aload_n F dX12_isWord_55 rfl (q := 0) rfl ?_
              refine gf_X12_85 F hI gs_131 rfl bd_131_9 dX12_isWord_56 (fun v33 ev33 av33 bv33 => ?_)
              have zv33 : u3 = v33 := eu3.trans ev33.symm
              subst zv33
              refine z_iload_n F dX12_isWord_59 rfl (q := 3) rfl ?_
              refine z_iadd F dX12_isWord_60 ?_
              have k34 : 0 ≤ (u3 + y29) ∧ (u3 + y29) ≤ 899 := by omega
              refine z_iald F hI gs_136 (by omega) (by omega) (by decide) bd_136 dX12_isWord_61 (fun v35 (ev35 : v35 = M 136 _) av35 bv35 => ?_)
              refine z_aload_n F dX12_isWord_62 rfl (q := 1) rfl ?_
              refine z_iload_n F dX12_isWord_63 rfl (q := 3) rfl ?_
              refine zvs_i (i := 75) (rest := [ii v35]) F (kS_chr l M ⟨hI, hW⟩ 75 (by decide) y29 (by omega) (show y29 < ((sbyt.getD 75 []).length : Int) from by rw [show ((sbyt.getD 75 []).length : Int) = 1 from by decide]; omega)) cs_X12_119 (by decide) (by decide) (by decide) rfl rfl rfl (Nat.le_of_ble_eq_true rfl) dX12_isWord_64 (fun v36 M9 rv36 hI9 pv36 => ?_)
              obtain ⟨⟨av36, bv36, ev36⟩, rfl⟩ := pv36
              clear hI9
              refine z_icmp_ne (tgt := 74) F dX12_isWord_67 (by decide +kernel) (by omega) (by omega) (fun c37 => ?_) (fun c37 => ?_)
              · refine z_iconst F dX12_isWord_74 ?_
                refine z_istore_n F dX12_isWord_75 rfl (by decide) (ls' := [(2, ii 0), (0, .ref (ad 131)), (1, .ref (ad 1075)), (3, ii y29)]) rfl ?_
                refine z_iincN F dX12_isWord_76 (q := 3) rfl (by decide) (fun v38 ev38 => ?_)
                refine z_eq (ls' := [(3, ii v38), (2, ii 0), (0, .ref (ad 131)), (1, .ref (ad 1075))]) rfl rfl rfl ?_
                refine z_goto (tgt := 39) F dX12_isWord_79 (by decide +kernel) ?_
                refine z_loc [2, 3, 1, 0] (ls' := [(0, .ref (ad 131)), (1, .ref (ad 1075)), (2, ii 0), (3, ii v38)]) rfl ?_
                exact ih39 0 v38 (by omega) (by omega) (by omega) (by omega) (by omega) (by rw [show v38 = y29 + 1 from by omega]; exact iwR_s i39_1 (by omega) (by omega) (by rw [wl_a]; omega) (by rw [wl_a]; omega) (show v35 = bR M ((M 131 9).toNat + (y29).toNat) from by show v35 = M 136 _; rw [show (M 131 9).toNat + (y29).toNat = ((u3 + y29)).toNat from by omega]; exact ev35) (ev36.trans (sw_75 (y29).toNat (by omega)).1) (by omega)) (by omega)
              · refine z_iconst F dX12_isWord_70 ?_
                refine z_goto (tgt := 75) F dX12_isWord_71 (by decide +kernel) ?_
                refine z_istore_n F dX12_isWord_75 rfl (by decide) (ls' := [(2, ii 1), (0, .ref (ad 131)), (1, .ref (ad 1075)), (3, ii y29)]) rfl ?_
                refine z_iincN F dX12_isWord_76 (q := 3) rfl (by decide) (fun v39 ev39 => ?_)
                refine z_eq (ls' := [(3, ii v39), (2, ii 1), (0, .ref (ad 131)), (1, .ref (ad 1075))]) rfl rfl rfl ?_
                refine z_goto (tgt := 39) F dX12_isWord_79 (by decide +kernel) ?_
                refine z_loc [2, 3, 1, 0] (ls' := [(0, .ref (ad 131)), (1, .ref (ad 1075)), (2, ii 1), (3, ii v39)]) rfl ?_
                exact ih39 1 v39 (by omega) (by omega) (by omega) (by omega) (by omega) (by rw [show v39 = y29 + 1 from by omega]; exact iwR_s i39_1 (by omega) (by omega) (by rw [wl_a]; omega) (by rw [wl_a]; omega) (show v35 = bR M ((M 131 9).toNat + (y29).toNat) from by show v35 = M 136 _; rw [show (M 131 9).toNat + (y29).toNat = ((u3 + y29)).toNat from by omega]; exact ev35) (ev36.trans (sw_75 (y29).toNat (by omega)).1) (by omega)) (by omega)
set_option maxHeartbeats 4000000 in
set_option maxRecDepth 4000 in
theorem kp_X12_took_131_1075 (l : Launch) (M : Mem) (hJ : Iw M) (hp0 : 0 ≤ M 131 9 ∧ M 131 9 ≤ M 131 8 ∧ M 131 8 ≤ M 131 7 ∧ M 131 7 ≤ 900 ∧ (M 131 10 = 0 ∨ M 131 9 < M 131 8)) : CI l yX12_took cX12_took 3 (some .boolean) 6 (fun ad => [.ref (ad 131), .ref (ad 1075)]) M (fun z M' => (0 ≤ z ∧ z ≤ 1) ∧ Fr [131] M M' ∧ (M' 131 7 = M 131 7 ∧ M' 131 16 = M 131 16 ∧ M 131 9 ≤ M' 131 9 ∧ 0 ≤ M' 131 9 ∧ M' 131 9 ≤ M' 131 8 ∧ M' 131 8 ≤ M' 131 7 ∧ M' 131 7 ≤ 900 ∧ (M' 131 10 = 0 ∨ M' 131 9 < M' 131 8) ∧ M' 131 12 = M 131 12 ∧ (z = 1 → M 131 12 = 0 ∧ M 131 9 < M' 131 9)) ∧ (WZ z (isW w_a (absR M)) ∧ tookW w_a (absR M) = absR M')) := by
  obtain ⟨hI, hW⟩ := hJ
  have hF : Fr [131] M M := Fr.rf
  refine en_z (by decide +kernel) (fun ad => by exact Nat.le_of_ble_eq_true rfl) (fun D cy ad A p e s m args below meth c Q F hret => ?_)
  refine z_eq (ls' := [(0, .ref (ad 131)), (1, .ref (ad 1075))]) rfl rfl rfl ?_
  refine z_aload_n F dX12_took_0 rfl (q := 0) rfl ?_
  refine z_aload_n F dX12_took_1 rfl (q := 1) rfl ?_
  refine zv_i (rest := []) F (kp_X12_isWord_131_1075 l M ⟨hI, hW⟩ (by omega)) cs_X12_123 (T := TX12) (N := 44) (ci := 12) rfl gs_131 (by decide) (by decide) rfl rfl rfl (Nat.le_of_ble_eq_true rfl) dX12_took_2 (fun v1 M2 rv1 hI p3 => ?_)
  obtain ⟨hI, hW⟩ := hI
  obtain ⟨⟨av1, bv1⟩, rfl, xp3, yp3⟩ := p3
  refine z_istore_n F dX12_took_5 rfl (by decide) (ls' := [(2, ii v1), (0, .ref (ad 131)), (1, .ref (ad 1075))]) rfl ?_
  refine z_iload_n F dX12_took_6 rfl (q := 0) rfl ?_
  refine z_if_eq (tgt := 14) F dX12_took_7 (by decide +kernel) (by omega) (fun c4 => ?_) (fun c4 => ?_)
  · refine z_iload_n F dX12_took_14 rfl (q := 0) rfl ?_
    exact hret _ _ 15 _ ⟨by omega, by omega⟩ ⟨hI, hW⟩ ⟨⟨by omega, by omega⟩, hF, (by omega), ⟨yp3, took_f (wz_f yp3 (by omega))⟩⟩ dX12_took_15
  · refine z_aload_n F dX12_took_10 rfl (q := 1) rfl ?_
    refine zv_v (rest := []) F (kp_X12_readsOn l M ⟨hI, hW⟩ (by omega)) cs_X12_127 (T := TX12) (N := 44) (ci := 12) rfl gs_131 (by decide) (by decide) rfl rfl rfl (Nat.le_of_ble_eq_true rfl) dX12_took_11 (fun M5 hI p6 => ?_)
    obtain ⟨hI, hW⟩ := hI
    obtain ⟨fp6, xp6, yp6⟩ := p6
    have hF := hF.call fp6 (by decide)
    have tM5_133_6 : M5 133 6 = M 133 6 := fp6.at (by decide)
    have tM5_133_1 : M5 133 1 = M 133 1 := fp6.at (by decide)
    refine z_iload_n F dX12_took_14 rfl (q := 0) rfl ?_
    exact hret _ _ 15 _ ⟨by omega, by omega⟩ ⟨hI, hW⟩ ⟨⟨by omega, by omega⟩, hF, (by omega), ⟨yp3, took_t (wz_t yp3 (by omega)) (yp6 (by omega))⟩⟩ dX12_took_15
set_option maxHeartbeats 4000000 in
set_option maxRecDepth 4000 in
theorem kp_X12_isWord_131_1076 (l : Launch) (M : Mem) (hJ : Iw M) (hp0 : 0 ≤ M 131 9 ∧ M 131 9 ≤ M 131 8 ∧ M 131 8 ≤ M 131 7 ∧ M 131 7 ≤ 900 ∧ (M 131 10 = 0 ∨ M 131 9 < M 131 8)) : CI l yX12_isWord cX12_isWord 4 (some .boolean) 5 (fun ad => [.ref (ad 131), .ref (ad 1076)]) M (fun z M' => (0 ≤ z ∧ z ≤ 1) ∧ M = M' ∧ (z = 1 → M 131 12 = 0 ∧ M 131 10 = 1) ∧ (WZ z (isW w_b (absR M)))) := by
  obtain ⟨hI, hW⟩ := hJ
  refine en_z (by decide +kernel) (fun ad => by exact Nat.le_of_ble_eq_true rfl) (fun D cy ad A p e s m args below meth c Q F hret => ?_)
  refine z_eq (ls' := [(0, .ref (ad 131)), (1, .ref (ad 1076))]) rfl rfl rfl ?_
  obtain ⟨u1, eu1⟩ : ∃ v : Int, v = M 131 7 := ⟨_, rfl⟩
  have ku1 : 0 ≤ u1 ∧ u1 ≤ 900 := by have := hI.at (show Bd 131 7 = (0, 900) from rfl); omega
  obtain ⟨u2, eu2⟩ : ∃ v : Int, v = M 131 8 := ⟨_, rfl⟩
  have ku2 : 0 ≤ u2 ∧ u2 ≤ 900 := by have := hI.at (show Bd 131 8 = (0, 900) from rfl); omega
  obtain ⟨u3, eu3⟩ : ∃ v : Int, v = M 131 9 := ⟨_, rfl⟩
  have ku3 : 0 ≤ u3 ∧ u3 ≤ 900 := by have := hI.at (show Bd 131 9 = (0, 900) from rfl); omega
  obtain ⟨u4, eu4⟩ : ∃ v : Int, v = M 131 10 := ⟨_, rfl⟩
  have ku4 : (-2147483648) ≤ u4 ∧ u4 ≤ 2147483647 := by have := hI.at (show Bd 131 10 = (-2147483648, 2147483647) from rfl); omega
  obtain ⟨u5, eu5⟩ : ∃ v : Int, v = M 131 12 := ⟨_, rfl⟩
  have ku5 : 0 ≤ u5 ∧ u5 ≤ 4 := by have := hI.at (show Bd 131 12 = (0, 4) from rfl); omega
  obtain ⟨u6, eu6⟩ : ∃ v : Int, v = M 131 16 := ⟨_, rfl⟩
  have ku6 : (-2147483648) ≤ u6 ∧ u6 ≤ 2147483647 := by have := hI.at (show Bd 131 16 = (-2147483648, 2147483647) from rfl); omega
  refine z_aload_n F dX12_isWord_0 rfl (q := 0) rfl ?_
  refine gf_X12_108 F hI gs_131 rfl bd_131_12 dX12_isWord_1 (fun v7 ev7 av7 bv7 => ?_)
  have zv7 : u5 = v7 := eu5.trans ev7.symm
  subst zv7
  refine z_if_ne (tgt := 35) F dX12_isWord_4 (by decide +kernel) (by omega) (fun c8 => ?_) (fun c8 => ?_)
  · refine z_iconst F dX12_isWord_35 ?_
    refine z_istore_n F dX12_isWord_36 rfl (by decide) (ls' := [(2, ii 0), (0, .ref (ad 131)), (1, .ref (ad 1076))]) rfl ?_
    refine z_iconst F dX12_isWord_37 ?_
    refine z_istore_n F dX12_isWord_38 rfl (by decide) (ls' := [(3, ii 0), (2, ii 0), (0, .ref (ad 131)), (1, .ref (ad 1076))]) rfl ?_
    refine z_loc [2, 3, 1, 0] (ls' := [(0, .ref (ad 131)), (1, .ref (ad 1076)), (2, ii 0), (3, ii 0)]) rfl ?_
    suffices key39 : ∀ (n : Nat) (y10 : Int) (y11 : Int), 0 ≤ y10 → y10 ≤ 0 → 0 ≤ y11 → y11 ≤ 0 → (y10 = 1 → M 131 12 = 0 ∧ M 131 10 = 1 ∧ M 131 8 - M 131 9 = 1) → (Iw_R M w_b y10 y11) → 0 < (n : Int) → Z D cy ad p l e (RMh 5) s m args below meth c A 4 0 0 Q 39 [(0, .ref (ad 131)), (1, .ref (ad 1076)), (2, ii y10), (3, ii y11)] [] M from key39 1 0 0 (by omega) (by omega) (by omega) (by omega) (by omega) (iwR_n (by rw [wl_b]; unfold tkR; omega)) (by omega)
    intro n39
    induction n39 with
    | zero => intro y10 y11 ay10 by10 ay11 by11 i39_0 i39_1 hn39; exfalso; omega
    | succ n39 ih39 =>
      intro y10 y11 ay10 by10 ay11 by11 i39_0 i39_1 hn39
      refine z_iload_n F dX12_isWord_39 rfl (q := 2) rfl ?_
      refine z_if_eq (tgt := 82) F dX12_isWord_40 (by decide +kernel) (by omega) (fun c12 => ?_) (fun c12 => by exfalso; omega)
      refine z_iload_n F dX12_isWord_82 rfl (q := 2) rfl ?_
      exact hret _ _ 83 _ ⟨by omega, by omega⟩ ⟨hI, hW⟩ ⟨⟨by omega, by omega⟩, rfl, (by omega), (iwR_e i39_1 (by rw [wl_b]; unfold tkR; omega) (by omega) (by omega))⟩ dX12_isWord_83
  · refine z_aload_n F dX12_isWord_7 rfl (q := 0) rfl ?_
    refine gf_X12_88 F hI gs_131 rfl bd_131_10 dX12_isWord_8 (fun v13 ev13 av13 bv13 => ?_)
    have zv13 : u4 = v13 := eu4.trans ev13.symm
    subst zv13
    refine z_iconst F dX12_isWord_11 ?_
    refine z_icmp_ne (tgt := 35) F dX12_isWord_12 (by decide +kernel) (by omega) (by omega) (fun c14 => ?_) (fun c14 => ?_)
    · refine z_iconst F dX12_isWord_35 ?_
      refine z_istore_n F dX12_isWord_36 rfl (by decide) (ls' := [(2, ii 0), (0, .ref (ad 131)), (1, .ref (ad 1076))]) rfl ?_
      refine z_iconst F dX12_isWord_37 ?_
      refine z_istore_n F dX12_isWord_38 rfl (by decide) (ls' := [(3, ii 0), (2, ii 0), (0, .ref (ad 131)), (1, .ref (ad 1076))]) rfl ?_
      refine z_loc [2, 3, 1, 0] (ls' := [(0, .ref (ad 131)), (1, .ref (ad 1076)), (2, ii 0), (3, ii 0)]) rfl ?_
      suffices key39 : ∀ (n : Nat) (y16 : Int) (y17 : Int), 0 ≤ y16 → y16 ≤ 0 → 0 ≤ y17 → y17 ≤ 0 → (y16 = 1 → M 131 12 = 0 ∧ M 131 10 = 1 ∧ M 131 8 - M 131 9 = 1) → (Iw_R M w_b y16 y17) → 0 < (n : Int) → Z D cy ad p l e (RMh 5) s m args below meth c A 4 0 0 Q 39 [(0, .ref (ad 131)), (1, .ref (ad 1076)), (2, ii y16), (3, ii y17)] [] M from key39 1 0 0 (by omega) (by omega) (by omega) (by omega) (by omega) (iwR_n (by rw [wl_b]; unfold tkR; omega)) (by omega)
      intro n39
      induction n39 with
      | zero => intro y16 y17 ay16 by16 ay17 by17 i39_0 i39_1 hn39; exfalso; omega
      | succ n39 ih39 =>
        intro y16 y17 ay16 by16 ay17 by17 i39_0 i39_1 hn39
        refine z_iload_n F dX12_isWord_39 rfl (q := 2) rfl ?_
        refine z_if_eq (tgt := 82) F dX12_isWord_40 (by decide +kernel) (by omega) (fun c18 => ?_) (fun c18 => by exfalso; omega)
        refine z_iload_n F dX12_isWord_82 rfl (q := 2) rfl ?_
        exact hret _ _ 83 _ ⟨by omega, by omega⟩ ⟨hI, hW⟩ ⟨⟨by omega, by omega⟩, rfl, (by omega), (iwR_e i39_1 (by rw [wl_b]; unfold tkR; omega) (by omega) (by omega))⟩ dX12_isWord_83
    · refine z_aload_n F dX12_isWord_15 rfl (q := 0) rfl ?_
      refine gf_X12_82 F hI gs_131 rfl bd_131_8 dX12_isWord_16 (fun v19 ev19 av19 bv19 => ?_)
      have zv19 : u2 = v19 := eu2.trans ev19.symm
      subst zv19
      refine z_aload_n F dX12_isWord_19 rfl (q := 0) rfl ?_
      refine gf_X12_85 F hI gs_131 rfl bd_131_9 dX12_isWord_20 (fun v20 ev20 av20 bv20 => ?_)
      have zv20 : u3 = v20 := eu3.trans ev20.symm
      subst zv20
      refine z_isub F dX12_isWord_23 ?_
      refine z_aload_n F dX12_isWord_24 rfl (q := 1) rfl ?_
      refine zvs_i (i := 76) (rest := [ii (u2 - u3)]) F (kS_len l M ⟨hI, hW⟩ 76 (by decide)) cs_X12_114 (by decide) (by decide) (by decide) rfl rfl rfl (Nat.le_of_ble_eq_true rfl) dX12_isWord_25 (fun v21 M9 rv21 hI9 pv21 => ?_)
      obtain ⟨ev21, rfl⟩ := pv21
      obtain rfl : v21 = 1 := ev21.trans (show ((sbyt.getD 76 []).length : Int) = 1 from by decide)
      clear hI9
      refine z_icmp_ne (tgt := 35) F dX12_isWord_28 (by decide +kernel) (by omega) (by omega) (fun c22 => ?_) (fun c22 => ?_)
      · refine z_iconst F dX12_isWord_35 ?_
        refine z_istore_n F dX12_isWord_36 rfl (by decide) (ls' := [(2, ii 0), (0, .ref (ad 131)), (1, .ref (ad 1076))]) rfl ?_
        refine z_iconst F dX12_isWord_37 ?_
        refine z_istore_n F dX12_isWord_38 rfl (by decide) (ls' := [(3, ii 0), (2, ii 0), (0, .ref (ad 131)), (1, .ref (ad 1076))]) rfl ?_
        refine z_loc [2, 3, 1, 0] (ls' := [(0, .ref (ad 131)), (1, .ref (ad 1076)), (2, ii 0), (3, ii 0)]) rfl ?_
        suffices key39 : ∀ (n : Nat) (y24 : Int) (y25 : Int), 0 ≤ y24 → y24 ≤ 0 → 0 ≤ y25 → y25 ≤ 0 → (y24 = 1 → M 131 12 = 0 ∧ M 131 10 = 1 ∧ M 131 8 - M 131 9 = 1) → (Iw_R M w_b y24 y25) → 0 < (n : Int) → Z D cy ad p l e (RMh 5) s m args below meth c A 4 0 0 Q 39 [(0, .ref (ad 131)), (1, .ref (ad 1076)), (2, ii y24), (3, ii y25)] [] M from key39 1 0 0 (by omega) (by omega) (by omega) (by omega) (by omega) (iwR_n (by rw [wl_b]; unfold tkR; omega)) (by omega)
        intro n39
        induction n39 with
        | zero => intro y24 y25 ay24 by24 ay25 by25 i39_0 i39_1 hn39; exfalso; omega
        | succ n39 ih39 =>
          intro y24 y25 ay24 by24 ay25 by25 i39_0 i39_1 hn39
          refine z_iload_n F dX12_isWord_39 rfl (q := 2) rfl ?_
          refine z_if_eq (tgt := 82) F dX12_isWord_40 (by decide +kernel) (by omega) (fun c26 => ?_) (fun c26 => by exfalso; omega)
          refine z_iload_n F dX12_isWord_82 rfl (q := 2) rfl ?_
          exact hret _ _ 83 _ ⟨by omega, by omega⟩ ⟨hI, hW⟩ ⟨⟨by omega, by omega⟩, rfl, (by omega), (iwR_e i39_1 (by rw [wl_b]; unfold tkR; omega) (by omega) (by omega))⟩ dX12_isWord_83
      · refine z_iconst F dX12_isWord_31 ?_
        refine z_goto (tgt := 36) F dX12_isWord_32 (by decide +kernel) ?_
        refine z_istore_n F dX12_isWord_36 rfl (by decide) (ls' := [(2, ii 1), (0, .ref (ad 131)), (1, .ref (ad 1076))]) rfl ?_
        refine z_iconst F dX12_isWord_37 ?_
        refine z_istore_n F dX12_isWord_38 rfl (by decide) (ls' := [(3, ii 0), (2, ii 1), (0, .ref (ad 131)), (1, .ref (ad 1076))]) rfl ?_
        refine z_loc [2, 3, 1, 0] (ls' := [(0, .ref (ad 131)), (1, .ref (ad 1076)), (2, ii 1), (3, ii 0)]) rfl ?_
        suffices key39 : ∀ (n : Nat) (y28 : Int) (y29 : Int), 0 ≤ y28 → y28 ≤ 1 → 0 ≤ y29 → y29 ≤ 1 → (y28 = 1 → M 131 12 = 0 ∧ M 131 10 = 1 ∧ M 131 8 - M 131 9 = 1) → (Iw_R M w_b y28 y29) → 1 - y29 < (n : Int) → Z D cy ad p l e (RMh 5) s m args below meth c A 4 0 0 Q 39 [(0, .ref (ad 131)), (1, .ref (ad 1076)), (2, ii y28), (3, ii y29)] [] M from key39 2 1 0 (by omega) (by omega) (by omega) (by omega) (by omega) iwR_0 (by omega)
        intro n39
        induction n39 with
        | zero => intro y28 y29 ay28 by28 ay29 by29 i39_0 i39_1 hn39; exfalso; omega
        | succ n39 ih39 =>
          intro y28 y29 ay28 by28 ay29 by29 i39_0 i39_1 hn39
          refine z_iload_n F dX12_isWord_39 rfl (q := 2) rfl ?_
          refine z_if_eq (tgt := 82) F dX12_isWord_40 (by decide +kernel) (by omega) (fun c30 => ?_) (fun c30 => ?_)
          · refine z_iload_n F dX12_isWord_82 rfl (q := 2) rfl ?_
            exact hret _ _ 83 _ ⟨by omega, by omega⟩ ⟨hI, hW⟩ ⟨⟨by omega, by omega⟩, rfl, (by omega), (iwR_e i39_1 (by rw [wl_b]; unfold tkR; omega) (by omega) (by omega))⟩ dX12_isWord_83
          · refine z_iload_n F dX12_isWord_43 rfl (q := 3) rfl ?_
            refine z_aload_n F dX12_isWord_44 rfl (q := 1) rfl ?_
            refine zvs_i (i := 76) (rest := [ii y29]) F (kS_len l M ⟨hI, hW⟩ 76 (by decide)) cs_X12_114 (by decide) (by decide) (by decide) rfl rfl rfl (Nat.le_of_ble_eq_true rfl) dX12_isWord_45 (fun v31 M9 rv31 hI9 pv31 => ?_)
            obtain ⟨ev31, rfl⟩ := pv31
            obtain rfl : v31 = 1 := ev31.trans (show ((sbyt.getD 76 []).length : Int) = 1 from by decide)
            clear hI9
            refine z_icmp_ge (tgt := 82) F dX12_isWord_48 (by decide +kernel) (by omega) (by omega) (fun c32 => ?_) (fun c32 => ?_)
            · refine z_iload_n F dX12_isWord_82 rfl (q := 2) rfl ?_
              exact hret _ _ 83 _ ⟨by omega, by omega⟩ ⟨hI, hW⟩ ⟨⟨by omega, by omega⟩, rfl, (by omega), (iwR_e i39_1 (by rw [wl_b]; unfold tkR; omega) (by omega) (by omega))⟩ dX12_isWord_83
            · refine z_aload_n F dX12_isWord_51 rfl (q := 0) rfl ?_
              refine rf_X12_23 F gs_131 rfl dX12_isWord_52 ?_
              refine z_aload_n F dX12_isWord_55 rfl (q := 0) rfl ?_
              refine gf_X12_85 F hI gs_131 rfl bd_131_9 dX12_isWord_56 (fun v33 ev33 av33 bv33 => ?_)
              have zv33 : u3 = v33 := eu3.trans ev33.symm
              subst zv33
              refine z_iload_n F dX12_isWord_59 rfl (q := 3) rfl ?_
              refine z_iadd F dX12_isWord_60 ?_
              have k34 : 0 ≤ (u3 + y29) ∧ (u3 + y29) ≤ 899 := by omega
              refine z_iald F hI gs_136 (by omega) (by omega) (by decide) bd_136 dX12_isWord_61 (fun v35 (ev35 : v35 = M 136 _) av35 bv35 => ?_)
              refine z_aload_n F dX12_isWord_62 rfl (q := 1) rfl ?_
              refine z_iload_n F dX12_isWord_63 rfl (q := 3) rfl ?_
              refine zvs_i (i := 76) (rest := [ii v35]) F (kS_chr l M ⟨hI, hW⟩ 76 (by decide) y29 (by omega) (show y29 < ((sbyt.getD 76 []).length : Int) from by rw [show ((sbyt.getD 76 []).length : Int) = 1 from by decide]; omega)) cs_X12_119 (by decide) (by decide) (by decide) rfl rfl rfl (Nat.le_of_ble_eq_true rfl) dX12_isWord_64 (fun v36 M9 rv36 hI9 pv36 => ?_)
              obtain ⟨⟨av36, bv36, ev36⟩, rfl⟩ := pv36
              clear hI9
              refine z_icmp_ne (tgt := 74) F dX12_isWord_67 (by decide +kernel) (by omega) (by omega) (fun c37 => ?_) (fun c37 => ?_)
              · refine z_iconst F dX12_isWord_74 ?_
                refine z_istore_n F dX12_isWord_75 rfl (by decide) (ls' := [(2, ii 0), (0, .ref (ad 131)), (1, .ref (ad 1076)), (3, ii y29)]) rfl ?_
                refine z_iincN F dX12_isWord_76 (q := 3) rfl (by decide) (fun v38 ev38 => ?_)
                refine z_eq (ls' := [(3, ii v38), (2, ii 0), (0, .ref (ad 131)), (1, .ref (ad 1076))]) rfl rfl rfl ?_
                refine z_goto (tgt := 39) F dX12_isWord_79 (by decide +kernel) ?_
                refine z_loc [2, 3, 1, 0] (ls' := [(0, .ref (ad 131)), (1, .ref (ad 1076)), (2, ii 0), (3, ii v38)]) rfl ?_
                exact ih39 0 v38 (by omega) (by omega) (by omega) (by omega) (by omega) (by rw [show v38 = y29 + 1 from by omega]; exact iwR_s i39_1 (by omega) (by omega) (by rw [wl_b]; omega) (by rw [wl_b]; omega) (show v35 = bR M ((M 131 9).toNat + (y29).toNat) from by show v35 = M 136 _; rw [show (M 131 9).toNat + (y29).toNat = ((u3 + y29)).toNat from by omega]; exact ev35) (ev36.trans (sw_76 (y29).toNat (by omega)).1) (by omega)) (by omega)
              · refine z_iconst F dX12_isWord_70 ?_
                refine z_goto (tgt := 75) F dX12_isWord_71 (by decide +kernel) ?_
                refine z_istore_n F dX12_isWord_75 rfl (by decide) (ls' := [(2, ii 1), (0, .ref (ad 131)), (1, .ref (ad 1076)), (3, ii y29)]) rfl ?_
                refine z_iincN F dX12_isWord_76 (q := 3) rfl (by decide) (fun v39 ev39 => ?_)
                refine z_eq (ls' := [(3, ii v39), (2, ii 1), (0, .ref (ad 131)), (1, .ref (ad 1076))]) rfl rfl rfl ?_
                refine z_goto (tgt := 39) F dX12_isWord_79 (by decide +kernel) ?_
                refine z_loc [2, 3, 1, 0] (ls' := [(0, .ref (ad 131)), (1, .ref (ad 1076)), (2, ii 1), (3, ii v39)]) rfl ?_
                exact ih39 1 v39 (by omega) (by omega) (by omega) (by omega) (by omega) (by rw [show v39 = y29 + 1 from by omega]; exact iwR_s i39_1 (by omega) (by omega) (by rw [wl_b]; omega) (by rw [wl_b]; omega) (show v35 = bR M ((M 131 9).toNat + (y29).toNat) from by show v35 = M 136 _; rw [show (M 131 9).toNat + (y29).toNat = ((u3 + y29)).toNat from by omega]; exact ev35) (ev36.trans (sw_76 (y29).toNat (by omega)).1) (by omega)) (by omega)
set_option maxHeartbeats 4000000 in
set_option maxRecDepth 4000 in
theorem kp_X12_took_131_1076 (l : Launch) (M : Mem) (hJ : Iw M) (hp0 : 0 ≤ M 131 9 ∧ M 131 9 ≤ M 131 8 ∧ M 131 8 ≤ M 131 7 ∧ M 131 7 ≤ 900 ∧ (M 131 10 = 0 ∨ M 131 9 < M 131 8)) : CI l yX12_took cX12_took 3 (some .boolean) 6 (fun ad => [.ref (ad 131), .ref (ad 1076)]) M (fun z M' => (0 ≤ z ∧ z ≤ 1) ∧ Fr [131] M M' ∧ (M' 131 7 = M 131 7 ∧ M' 131 16 = M 131 16 ∧ M 131 9 ≤ M' 131 9 ∧ 0 ≤ M' 131 9 ∧ M' 131 9 ≤ M' 131 8 ∧ M' 131 8 ≤ M' 131 7 ∧ M' 131 7 ≤ 900 ∧ (M' 131 10 = 0 ∨ M' 131 9 < M' 131 8) ∧ M' 131 12 = M 131 12 ∧ (z = 1 → M 131 12 = 0 ∧ M 131 9 < M' 131 9)) ∧ (WZ z (isW w_b (absR M)) ∧ tookW w_b (absR M) = absR M')) := by
  obtain ⟨hI, hW⟩ := hJ
  have hF : Fr [131] M M := Fr.rf
  refine en_z (by decide +kernel) (fun ad => by exact Nat.le_of_ble_eq_true rfl) (fun D cy ad A p e s m args below meth c Q F hret => ?_)
  refine z_eq (ls' := [(0, .ref (ad 131)), (1, .ref (ad 1076))]) rfl rfl rfl ?_
  refine z_aload_n F dX12_took_0 rfl (q := 0) rfl ?_
  refine z_aload_n F dX12_took_1 rfl (q := 1) rfl ?_
  refine zv_i (rest := []) F (kp_X12_isWord_131_1076 l M ⟨hI, hW⟩ (by omega)) cs_X12_123 (T := TX12) (N := 44) (ci := 12) rfl gs_131 (by decide) (by decide) rfl rfl rfl (Nat.le_of_ble_eq_true rfl) dX12_took_2 (fun v1 M2 rv1 hI p3 => ?_)
  obtain ⟨hI, hW⟩ := hI
  obtain ⟨⟨av1, bv1⟩, rfl, xp3, yp3⟩ := p3
  refine z_istore_n F dX12_took_5 rfl (by decide) (ls' := [(2, ii v1), (0, .ref (ad 131)), (1, .ref (ad 1076))]) rfl ?_
  refine z_iload_n F dX12_took_6 rfl (q := 0) rfl ?_
  refine z_if_eq (tgt := 14) F dX12_took_7 (by decide +kernel) (by omega) (fun c4 => ?_) (fun c4 => ?_)
  · refine z_iload_n F dX12_took_14 rfl (q := 0) rfl ?_
    exact hret _ _ 15 _ ⟨by omega, by omega⟩ ⟨hI, hW⟩ ⟨⟨by omega, by omega⟩, hF, (by omega), ⟨yp3, took_f (wz_f yp3 (by omega))⟩⟩ dX12_took_15
  · refine z_aload_n F dX12_took_10 rfl (q := 1) rfl ?_
    refine zv_v (rest := []) F (kp_X12_readsOn l M ⟨hI, hW⟩ (by omega)) cs_X12_127 (T := TX12) (N := 44) (ci := 12) rfl gs_131 (by decide) (by decide) rfl rfl rfl (Nat.le_of_ble_eq_true rfl) dX12_took_11 (fun M5 hI p6 => ?_)
    obtain ⟨hI, hW⟩ := hI
    obtain ⟨fp6, xp6, yp6⟩ := p6
    have hF := hF.call fp6 (by decide)
    have tM5_133_6 : M5 133 6 = M 133 6 := fp6.at (by decide)
    have tM5_133_1 : M5 133 1 = M 133 1 := fp6.at (by decide)
    refine z_iload_n F dX12_took_14 rfl (q := 0) rfl ?_
    exact hret _ _ 15 _ ⟨by omega, by omega⟩ ⟨hI, hW⟩ ⟨⟨by omega, by omega⟩, hF, (by omega), ⟨yp3, took_t (wz_t yp3 (by omega)) (yp6 (by omega))⟩⟩ dX12_took_15
set_option maxHeartbeats 4000000 in
set_option maxRecDepth 4000 in
theorem kp_X12_isWord_131_1077 (l : Launch) (M : Mem) (hJ : Iw M) (hp0 : 0 ≤ M 131 9 ∧ M 131 9 ≤ M 131 8 ∧ M 131 8 ≤ M 131 7 ∧ M 131 7 ≤ 900 ∧ (M 131 10 = 0 ∨ M 131 9 < M 131 8)) : CI l yX12_isWord cX12_isWord 4 (some .boolean) 5 (fun ad => [.ref (ad 131), .ref (ad 1077)]) M (fun z M' => (0 ≤ z ∧ z ≤ 1) ∧ M = M' ∧ (z = 1 → M 131 12 = 0 ∧ M 131 10 = 1) ∧ (WZ z (isW w_odda (absR M)))) := by
  obtain ⟨hI, hW⟩ := hJ
  refine en_z (by decide +kernel) (fun ad => by exact Nat.le_of_ble_eq_true rfl) (fun D cy ad A p e s m args below meth c Q F hret => ?_)
  refine z_eq (ls' := [(0, .ref (ad 131)), (1, .ref (ad 1077))]) rfl rfl rfl ?_
  obtain ⟨u1, eu1⟩ : ∃ v : Int, v = M 131 7 := ⟨_, rfl⟩
  have ku1 : 0 ≤ u1 ∧ u1 ≤ 900 := by have := hI.at (show Bd 131 7 = (0, 900) from rfl); omega
  obtain ⟨u2, eu2⟩ : ∃ v : Int, v = M 131 8 := ⟨_, rfl⟩
  have ku2 : 0 ≤ u2 ∧ u2 ≤ 900 := by have := hI.at (show Bd 131 8 = (0, 900) from rfl); omega
  obtain ⟨u3, eu3⟩ : ∃ v : Int, v = M 131 9 := ⟨_, rfl⟩
  have ku3 : 0 ≤ u3 ∧ u3 ≤ 900 := by have := hI.at (show Bd 131 9 = (0, 900) from rfl); omega
  obtain ⟨u4, eu4⟩ : ∃ v : Int, v = M 131 10 := ⟨_, rfl⟩
  have ku4 : (-2147483648) ≤ u4 ∧ u4 ≤ 2147483647 := by have := hI.at (show Bd 131 10 = (-2147483648, 2147483647) from rfl); omega
  obtain ⟨u5, eu5⟩ : ∃ v : Int, v = M 131 12 := ⟨_, rfl⟩
  have ku5 : 0 ≤ u5 ∧ u5 ≤ 4 := by have := hI.at (show Bd 131 12 = (0, 4) from rfl); omega
  obtain ⟨u6, eu6⟩ : ∃ v : Int, v = M 131 16 := ⟨_, rfl⟩
  have ku6 : (-2147483648) ≤ u6 ∧ u6 ≤ 2147483647 := by have := hI.at (show Bd 131 16 = (-2147483648, 2147483647) from rfl); omega
  refine z_aload_n F dX12_isWord_0 rfl (q := 0) rfl ?_
  refine gf_X12_108 F hI gs_131 rfl bd_131_12 dX12_isWord_1 (fun v7 ev7 av7 bv7 => ?_)
  have zv7 : u5 = v7 := eu5.trans ev7.symm
  subst zv7
  refine z_if_ne (tgt := 35) F dX12_isWord_4 (by decide +kernel) (by omega) (fun c8 => ?_) (fun c8 => ?_)
  · refine z_iconst F dX12_isWord_35 ?_
    refine z_istore_n F dX12_isWord_36 rfl (by decide) (ls' := [(2, ii 0), (0, .ref (ad 131)), (1, .ref (ad 1077))]) rfl ?_
    refine z_iconst F dX12_isWord_37 ?_
    refine z_istore_n F dX12_isWord_38 rfl (by decide) (ls' := [(3, ii 0), (2, ii 0), (0, .ref (ad 131)), (1, .ref (ad 1077))]) rfl ?_
    refine z_loc [2, 3, 1, 0] (ls' := [(0, .ref (ad 131)), (1, .ref (ad 1077)), (2, ii 0), (3, ii 0)]) rfl ?_
    suffices key39 : ∀ (n : Nat) (y10 : Int) (y11 : Int), 0 ≤ y10 → y10 ≤ 0 → 0 ≤ y11 → y11 ≤ 0 → (y10 = 1 → M 131 12 = 0 ∧ M 131 10 = 1 ∧ M 131 8 - M 131 9 = 4) → (Iw_R M w_odda y10 y11) → 0 < (n : Int) → Z D cy ad p l e (RMh 5) s m args below meth c A 4 0 0 Q 39 [(0, .ref (ad 131)), (1, .ref (ad 1077)), (2, ii y10), (3, ii y11)] [] M from key39 1 0 0 (by omega) (by omega) (by omega) (by omega) (by omega) (iwR_n (by rw [wl_odda]; unfold tkR; omega)) (by omega)
    intro n39
    induction n39 with
    | zero => intro y10 y11 ay10 by10 ay11 by11 i39_0 i39_1 hn39; exfalso; omega
    | succ n39 ih39 =>
      intro y10 y11 ay10 by10 ay11 by11 i39_0 i39_1 hn39
      refine z_iload_n F dX12_isWord_39 rfl (q := 2) rfl ?_
      refine z_if_eq (tgt := 82) F dX12_isWord_40 (by decide +kernel) (by omega) (fun c12 => ?_) (fun c12 => by exfalso; omega)
      refine z_iload_n F dX12_isWord_82 rfl (q := 2) rfl ?_
      exact hret _ _ 83 _ ⟨by omega, by omega⟩ ⟨hI, hW⟩ ⟨⟨by omega, by omega⟩, rfl, (by omega), (iwR_e i39_1 (by rw [wl_odda]; unfold tkR; omega) (by omega) (by omega))⟩ dX12_isWord_83
  · refine z_aload_n F dX12_isWord_7 rfl (q := 0) rfl ?_
    refine gf_X12_88 F hI gs_131 rfl bd_131_10 dX12_isWord_8 (fun v13 ev13 av13 bv13 => ?_)
    have zv13 : u4 = v13 := eu4.trans ev13.symm
    subst zv13
    refine z_iconst F dX12_isWord_11 ?_
    refine z_icmp_ne (tgt := 35) F dX12_isWord_12 (by decide +kernel) (by omega) (by omega) (fun c14 => ?_) (fun c14 => ?_)
    · refine z_iconst F dX12_isWord_35 ?_
      refine z_istore_n F dX12_isWord_36 rfl (by decide) (ls' := [(2, ii 0), (0, .ref (ad 131)), (1, .ref (ad 1077))]) rfl ?_
      refine z_iconst F dX12_isWord_37 ?_
      refine z_istore_n F dX12_isWord_38 rfl (by decide) (ls' := [(3, ii 0), (2, ii 0), (0, .ref (ad 131)), (1, .ref (ad 1077))]) rfl ?_
      refine z_loc [2, 3, 1, 0] (ls' := [(0, .ref (ad 131)), (1, .ref (ad 1077)), (2, ii 0), (3, ii 0)]) rfl ?_
      suffices key39 : ∀ (n : Nat) (y16 : Int) (y17 : Int), 0 ≤ y16 → y16 ≤ 0 → 0 ≤ y17 → y17 ≤ 0 → (y16 = 1 → M 131 12 = 0 ∧ M 131 10 = 1 ∧ M 131 8 - M 131 9 = 4) → (Iw_R M w_odda y16 y17) → 0 < (n : Int) → Z D cy ad p l e (RMh 5) s m args below meth c A 4 0 0 Q 39 [(0, .ref (ad 131)), (1, .ref (ad 1077)), (2, ii y16), (3, ii y17)] [] M from key39 1 0 0 (by omega) (by omega) (by omega) (by omega) (by omega) (iwR_n (by rw [wl_odda]; unfold tkR; omega)) (by omega)
      intro n39
      induction n39 with
      | zero => intro y16 y17 ay16 by16 ay17 by17 i39_0 i39_1 hn39; exfalso; omega
      | succ n39 ih39 =>
        intro y16 y17 ay16 by16 ay17 by17 i39_0 i39_1 hn39
        refine z_iload_n F dX12_isWord_39 rfl (q := 2) rfl ?_
        refine z_if_eq (tgt := 82) F dX12_isWord_40 (by decide +kernel) (by omega) (fun c18 => ?_) (fun c18 => by exfalso; omega)
        refine z_iload_n F dX12_isWord_82 rfl (q := 2) rfl ?_
        exact hret _ _ 83 _ ⟨by omega, by omega⟩ ⟨hI, hW⟩ ⟨⟨by omega, by omega⟩, rfl, (by omega), (iwR_e i39_1 (by rw [wl_odda]; unfold tkR; omega) (by omega) (by omega))⟩ dX12_isWord_83
    · refine z_aload_n F dX12_isWord_15 rfl (q := 0) rfl ?_
      refine gf_X12_82 F hI gs_131 rfl bd_131_8 dX12_isWord_16 (fun v19 ev19 av19 bv19 => ?_)
      have zv19 : u2 = v19 := eu2.trans ev19.symm
      subst zv19
      refine z_aload_n F dX12_isWord_19 rfl (q := 0) rfl ?_
      refine gf_X12_85 F hI gs_131 rfl bd_131_9 dX12_isWord_20 (fun v20 ev20 av20 bv20 => ?_)
      have zv20 : u3 = v20 := eu3.trans ev20.symm
      subst zv20
      refine z_isub F dX12_isWord_23 ?_
      refine z_aload_n F dX12_isWord_24 rfl (q := 1) rfl ?_
      refine zvs_i (i := 77) (rest := [ii (u2 - u3)]) F (kS_len l M ⟨hI, hW⟩ 77 (by decide)) cs_X12_114 (by decide) (by decide) (by decide) rfl rfl rfl (Nat.le_of_ble_eq_true rfl) dX12_isWord_25 (fun v21 M9 rv21 hI9 pv21 => ?_)
      obtain ⟨ev21, rfl⟩ := pv21
      obtain rfl : v21 = 4 := ev21.trans (show ((sbyt.getD 77 []).length : Int) = 4 from by decide)
      clear hI9
      refine z_icmp_ne (tgt := 35) F dX12_isWord_28 (by decide +kernel) (by omega) (by omega) (fun c22 => ?_) (fun c22 => ?_)
      · refine z_iconst F dX12_isWord_35 ?_
        refine z_istore_n F dX12_isWord_36 rfl (by decide) (ls' := [(2, ii 0), (0, .ref (ad 131)), (1, .ref (ad 1077))]) rfl ?_
        refine z_iconst F dX12_isWord_37 ?_
        refine z_istore_n F dX12_isWord_38 rfl (by decide) (ls' := [(3, ii 0), (2, ii 0), (0, .ref (ad 131)), (1, .ref (ad 1077))]) rfl ?_
        refine z_loc [2, 3, 1, 0] (ls' := [(0, .ref (ad 131)), (1, .ref (ad 1077)), (2, ii 0), (3, ii 0)]) rfl ?_
        suffices key39 : ∀ (n : Nat) (y24 : Int) (y25 : Int), 0 ≤ y24 → y24 ≤ 0 → 0 ≤ y25 → y25 ≤ 0 → (y24 = 1 → M 131 12 = 0 ∧ M 131 10 = 1 ∧ M 131 8 - M 131 9 = 4) → (Iw_R M w_odda y24 y25) → 0 < (n : Int) → Z D cy ad p l e (RMh 5) s m args below meth c A 4 0 0 Q 39 [(0, .ref (ad 131)), (1, .ref (ad 1077)), (2, ii y24), (3, ii y25)] [] M from key39 1 0 0 (by omega) (by omega) (by omega) (by omega) (by omega) (iwR_n (by rw [wl_odda]; unfold tkR; omega)) (by omega)
        intro n39
        induction n39 with
        | zero => intro y24 y25 ay24 by24 ay25 by25 i39_0 i39_1 hn39; exfalso; omega
        | succ n39 ih39 =>
          intro y24 y25 ay24 by24 ay25 by25 i39_0 i39_1 hn39
          refine z_iload_n F dX12_isWord_39 rfl (q := 2) rfl ?_
          refine z_if_eq (tgt := 82) F dX12_isWord_40 (by decide +kernel) (by omega) (fun c26 => ?_) (fun c26 => by exfalso; omega)
          refine z_iload_n F dX12_isWord_82 rfl (q := 2) rfl ?_
          exact hret _ _ 83 _ ⟨by omega, by omega⟩ ⟨hI, hW⟩ ⟨⟨by omega, by omega⟩, rfl, (by omega), (iwR_e i39_1 (by rw [wl_odda]; unfold tkR; omega) (by omega) (by omega))⟩ dX12_isWord_83
      · refine z_iconst F dX12_isWord_31 ?_
        refine z_goto (tgt := 36) F dX12_isWord_32 (by decide +kernel) ?_
        refine z_istore_n F dX12_isWord_36 rfl (by decide) (ls' := [(2, ii 1), (0, .ref (ad 131)), (1, .ref (ad 1077))]) rfl ?_
        refine z_iconst F dX12_isWord_37 ?_
        refine z_istore_n F dX12_isWord_38 rfl (by decide) (ls' := [(3, ii 0), (2, ii 1), (0, .ref (ad 131)), (1, .ref (ad 1077))]) rfl ?_
        refine z_loc [2, 3, 1, 0] (ls' := [(0, .ref (ad 131)), (1, .ref (ad 1077)), (2, ii 1), (3, ii 0)]) rfl ?_
        suffices key39 : ∀ (n : Nat) (y28 : Int) (y29 : Int), 0 ≤ y28 → y28 ≤ 1 → 0 ≤ y29 → y29 ≤ 4 → (y28 = 1 → M 131 12 = 0 ∧ M 131 10 = 1 ∧ M 131 8 - M 131 9 = 4) → (Iw_R M w_odda y28 y29) → 4 - y29 < (n : Int) → Z D cy ad p l e (RMh 5) s m args below meth c A 4 0 0 Q 39 [(0, .ref (ad 131)), (1, .ref (ad 1077)), (2, ii y28), (3, ii y29)] [] M from key39 5 1 0 (by omega) (by omega) (by omega) (by omega) (by omega) iwR_0 (by omega)
        intro n39
        induction n39 with
        | zero => intro y28 y29 ay28 by28 ay29 by29 i39_0 i39_1 hn39; exfalso; omega
        | succ n39 ih39 =>
          intro y28 y29 ay28 by28 ay29 by29 i39_0 i39_1 hn39
          refine z_iload_n F dX12_isWord_39 rfl (q := 2) rfl ?_
          refine z_if_eq (tgt := 82) F dX12_isWord_40 (by decide +kernel) (by omega) (fun c30 => ?_) (fun c30 => ?_)
          · refine z_iload_n F dX12_isWord_82 rfl (q := 2) rfl ?_
            exact hret _ _ 83 _ ⟨by omega, by omega⟩ ⟨hI, hW⟩ ⟨⟨by omega, by omega⟩, rfl, (by omega), (iwR_e i39_1 (by rw [wl_odda]; unfold tkR; omega) (by omega) (by omega))⟩ dX12_isWord_83
          · refine z_iload_n F dX12_isWord_43 rfl (q := 3) rfl ?_
            refine z_aload_n F dX12_isWord_44 rfl (q := 1) rfl ?_
            refine zvs_i (i := 77) (rest := [ii y29]) F (kS_len l M ⟨hI, hW⟩ 77 (by decide)) cs_X12_114 (by decide) (by decide) (by decide) rfl rfl rfl (Nat.le_of_ble_eq_true rfl) dX12_isWord_45 (fun v31 M9 rv31 hI9 pv31 => ?_)
            obtain ⟨ev31, rfl⟩ := pv31
            obtain rfl : v31 = 4 := ev31.trans (show ((sbyt.getD 77 []).length : Int) = 4 from by decide)
            clear hI9
            refine z_icmp_ge (tgt := 82) F dX12_isWord_48 (by decide +kernel) (by omega) (by omega) (fun c32 => ?_) (fun c32 => ?_)
            · refine z_iload_n F dX12_isWord_82 rfl (q := 2) rfl ?_
              exact hret _ _ 83 _ ⟨by omega, by omega⟩ ⟨hI, hW⟩ ⟨⟨by omega, by omega⟩, rfl, (by omega), (iwR_e i39_1 (by rw [wl_odda]; unfold tkR; omega) (by omega) (by omega))⟩ dX12_isWord_83
            · refine z_aload_n F dX12_isWord_51 rfl (q := 0) rfl ?_
              refine rf_X12_23 F gs_131 rfl dX12_isWord_52 ?_
              refine z_aload_n F dX12_isWord_55 rfl (q := 0) rfl ?_
              refine gf_X12_85 F hI gs_131 rfl bd_131_9 dX12_isWord_56 (fun v33 ev33 av33 bv33 => ?_)
              have zv33 : u3 = v33 := eu3.trans ev33.symm
              subst zv33
              refine z_iload_n F dX12_isWord_59 rfl (q := 3) rfl ?_
              refine z_iadd F dX12_isWord_60 ?_
              have k34 : 0 ≤ (u3 + y29) ∧ (u3 + y29) ≤ 899 := by omega
              refine z_iald F hI gs_136 (by omega) (by omega) (by decide) bd_136 dX12_isWord_61 (fun v35 (ev35 : v35 = M 136 _) av35 bv35 => ?_)
              refine z_aload_n F dX12_isWord_62 rfl (q := 1) rfl ?_
              refine z_iload_n F dX12_isWord_63 rfl (q := 3) rfl ?_
              refine zvs_i (i := 77) (rest := [ii v35]) F (kS_chr l M ⟨hI, hW⟩ 77 (by decide) y29 (by omega) (show y29 < ((sbyt.getD 77 []).length : Int) from by rw [show ((sbyt.getD 77 []).length : Int) = 4 from by decide]; omega)) cs_X12_119 (by decide) (by decide) (by decide) rfl rfl rfl (Nat.le_of_ble_eq_true rfl) dX12_isWord_64 (fun v36 M9 rv36 hI9 pv36 => ?_)
              obtain ⟨⟨av36, bv36, ev36⟩, rfl⟩ := pv36
              clear hI9
              refine z_icmp_ne (tgt := 74) F dX12_isWord_67 (by decide +kernel) (by omega) (by omega) (fun c37 => ?_) (fun c37 => ?_)
              · refine z_iconst F dX12_isWord_74 ?_
                refine z_istore_n F dX12_isWord_75 rfl (by decide) (ls' := [(2, ii 0), (0, .ref (ad 131)), (1, .ref (ad 1077)), (3, ii y29)]) rfl ?_
                refine z_iincN F dX12_isWord_76 (q := 3) rfl (by decide) (fun v38 ev38 => ?_)
                refine z_eq (ls' := [(3, ii v38), (2, ii 0), (0, .ref (ad 131)), (1, .ref (ad 1077))]) rfl rfl rfl ?_
                refine z_goto (tgt := 39) F dX12_isWord_79 (by decide +kernel) ?_
                refine z_loc [2, 3, 1, 0] (ls' := [(0, .ref (ad 131)), (1, .ref (ad 1077)), (2, ii 0), (3, ii v38)]) rfl ?_
                exact ih39 0 v38 (by omega) (by omega) (by omega) (by omega) (by omega) (by rw [show v38 = y29 + 1 from by omega]; exact iwR_s i39_1 (by omega) (by omega) (by rw [wl_odda]; omega) (by rw [wl_odda]; omega) (show v35 = bR M ((M 131 9).toNat + (y29).toNat) from by show v35 = M 136 _; rw [show (M 131 9).toNat + (y29).toNat = ((u3 + y29)).toNat from by omega]; exact ev35) (ev36.trans (sw_77 (y29).toNat (by omega)).1) (by omega)) (by omega)
              · refine z_iconst F dX12_isWord_70 ?_
                refine z_goto (tgt := 75) F dX12_isWord_71 (by decide +kernel) ?_
                refine z_istore_n F dX12_isWord_75 rfl (by decide) (ls' := [(2, ii 1), (0, .ref (ad 131)), (1, .ref (ad 1077)), (3, ii y29)]) rfl ?_
                refine z_iincN F dX12_isWord_76 (q := 3) rfl (by decide) (fun v39 ev39 => ?_)
                refine z_eq (ls' := [(3, ii v39), (2, ii 1), (0, .ref (ad 131)), (1, .ref (ad 1077))]) rfl rfl rfl ?_
                refine z_goto (tgt := 39) F dX12_isWord_79 (by decide +kernel) ?_
                refine z_loc [2, 3, 1, 0] (ls' := [(0, .ref (ad 131)), (1, .ref (ad 1077)), (2, ii 1), (3, ii v39)]) rfl ?_
                exact ih39 1 v39 (by omega) (by omega) (by omega) (by omega) (by omega) (by rw [show v39 = y29 + 1 from by omega]; exact iwR_s i39_1 (by omega) (by omega) (by rw [wl_odda]; omega) (by rw [wl_odda]; omega) (show v35 = bR M ((M 131 9).toNat + (y29).toNat) from by show v35 = M 136 _; rw [show (M 131 9).toNat + (y29).toNat = ((u3 + y29)).toNat from by omega]; exact ev35) (ev36.trans (sw_77 (y29).toNat (by omega)).1) (by omega)) (by omega)
set_option maxHeartbeats 4000000 in
set_option maxRecDepth 4000 in
theorem kp_X12_took_131_1077 (l : Launch) (M : Mem) (hJ : Iw M) (hp0 : 0 ≤ M 131 9 ∧ M 131 9 ≤ M 131 8 ∧ M 131 8 ≤ M 131 7 ∧ M 131 7 ≤ 900 ∧ (M 131 10 = 0 ∨ M 131 9 < M 131 8)) : CI l yX12_took cX12_took 3 (some .boolean) 6 (fun ad => [.ref (ad 131), .ref (ad 1077)]) M (fun z M' => (0 ≤ z ∧ z ≤ 1) ∧ Fr [131] M M' ∧ (M' 131 7 = M 131 7 ∧ M' 131 16 = M 131 16 ∧ M 131 9 ≤ M' 131 9 ∧ 0 ≤ M' 131 9 ∧ M' 131 9 ≤ M' 131 8 ∧ M' 131 8 ≤ M' 131 7 ∧ M' 131 7 ≤ 900 ∧ (M' 131 10 = 0 ∨ M' 131 9 < M' 131 8) ∧ M' 131 12 = M 131 12 ∧ (z = 1 → M 131 12 = 0 ∧ M 131 9 < M' 131 9)) ∧ (WZ z (isW w_odda (absR M)) ∧ tookW w_odda (absR M) = absR M')) := by
  obtain ⟨hI, hW⟩ := hJ
  have hF : Fr [131] M M := Fr.rf
  refine en_z (by decide +kernel) (fun ad => by exact Nat.le_of_ble_eq_true rfl) (fun D cy ad A p e s m args below meth c Q F hret => ?_)
  refine z_eq (ls' := [(0, .ref (ad 131)), (1, .ref (ad 1077))]) rfl rfl rfl ?_
  refine z_aload_n F dX12_took_0 rfl (q := 0) rfl ?_
  refine z_aload_n F dX12_took_1 rfl (q := 1) rfl ?_
  refine zv_i (rest := []) F (kp_X12_isWord_131_1077 l M ⟨hI, hW⟩ (by omega)) cs_X12_123 (T := TX12) (N := 44) (ci := 12) rfl gs_131 (by decide) (by decide) rfl rfl rfl (Nat.le_of_ble_eq_true rfl) dX12_took_2 (fun v1 M2 rv1 hI p3 => ?_)
  obtain ⟨hI, hW⟩ := hI
  obtain ⟨⟨av1, bv1⟩, rfl, xp3, yp3⟩ := p3
  refine z_istore_n F dX12_took_5 rfl (by decide) (ls' := [(2, ii v1), (0, .ref (ad 131)), (1, .ref (ad 1077))]) rfl ?_
  refine z_iload_n F dX12_took_6 rfl (q := 0) rfl ?_
  refine z_if_eq (tgt := 14) F dX12_took_7 (by decide +kernel) (by omega) (fun c4 => ?_) (fun c4 => ?_)
  · refine z_iload_n F dX12_took_14 rfl (q := 0) rfl ?_
    exact hret _ _ 15 _ ⟨by omega, by omega⟩ ⟨hI, hW⟩ ⟨⟨by omega, by omega⟩, hF, (by omega), ⟨yp3, took_f (wz_f yp3 (by omega))⟩⟩ dX12_took_15
  · refine z_aload_n F dX12_took_10 rfl (q := 1) rfl ?_
    refine zv_v (rest := []) F (kp_X12_readsOn l M ⟨hI, hW⟩ (by omega)) cs_X12_127 (T := TX12) (N := 44) (ci := 12) rfl gs_131 (by decide) (by decide) rfl rfl rfl (Nat.le_of_ble_eq_true rfl) dX12_took_11 (fun M5 hI p6 => ?_)
    obtain ⟨hI, hW⟩ := hI
    obtain ⟨fp6, xp6, yp6⟩ := p6
    have hF := hF.call fp6 (by decide)
    have tM5_133_6 : M5 133 6 = M 133 6 := fp6.at (by decide)
    have tM5_133_1 : M5 133 1 = M 133 1 := fp6.at (by decide)
    refine z_iload_n F dX12_took_14 rfl (q := 0) rfl ?_
    exact hret _ _ 15 _ ⟨by omega, by omega⟩ ⟨hI, hW⟩ ⟨⟨by omega, by omega⟩, hF, (by omega), ⟨yp3, took_t (wz_t yp3 (by omega)) (yp6 (by omega))⟩⟩ dX12_took_15
