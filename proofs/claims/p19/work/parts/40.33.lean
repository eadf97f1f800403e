theorem dX6_readLine_0 : decode cX6_readLine 0 = .ok (.aload_n 0, 1) := by decide +kernel
theorem dX6_readLine_1 : decode cX6_readLine 1 = .ok (.ldc 127, 2) := by decide +kernel
theorem dX6_readLine_10 : decode cX6_readLine 10 = .ok (.invokevirtual 129, 3) := by decide +kernel
theorem dX6_readLine_13 : decode cX6_readLine 13 = .ok (.goto 82, 3) := by decide +kernel
theorem dX6_readLine_16 : decode cX6_readLine 16 = .ok (.aload_n 0, 1) := by decide +kernel
theorem dX6_readLine_17 : decode cX6_readLine 17 = .ok (.ldc 132, 2) := by decide +kernel
theorem dX6_readLine_19 : decode cX6_readLine 19 = .ok (.invokevirtual 86, 3) := by decide +kernel
theorem dX6_readLine_22 : decode cX6_readLine 22 = .ok (.ifCond .eq 10, 3) := by decide +kernel
theorem dX6_readLine_25 : decode cX6_readLine 25 = .ok (.aload_n 0, 1) := by decide +kernel
theorem dX6_readLine_26 : decode cX6_readLine 26 = .ok (.invokevirtual 134, 3) := by decide +kernel
theorem dX6_readLine_29 : decode cX6_readLine 29 = .ok (.goto 66, 3) := by decide +kernel
theorem dX6_readLine_3 : decode cX6_readLine 3 = .ok (.invokevirtual 86, 3) := by decide +kernel
theorem dX6_readLine_32 : decode cX6_readLine 32 = .ok (.aload_n 0, 1) := by decide +kernel
theorem dX6_readLine_33 : decode cX6_readLine 33 = .ok (.ldc 137, 2) := by decide +kernel
theorem dX6_readLine_35 : decode cX6_readLine 35 = .ok (.invokevirtual 86, 3) := by decide +kernel
theorem dX6_readLine_38 : decode cX6_readLine 38 = .ok (.ifCond .eq 10, 3) := by decide +kernel
theorem dX6_readLine_41 : decode cX6_readLine 41 = .ok (.aload_n 0, 1) := by decide +kernel
theorem dX6_readLine_42 : decode cX6_readLine 42 = .ok (.invokevirtual 139, 3) := by decide +kernel
theorem dX6_readLine_45 : decode cX6_readLine 45 = .ok (.goto 50, 3) := by decide +kernel
theorem dX6_readLine_48 : decode cX6_readLine 48 = .ok (.aload_n 0, 1) := by decide +kernel
theorem dX6_readLine_49 : decode cX6_readLine 49 = .ok (.ldc 142, 2) := by decide +kernel
theorem dX6_readLine_51 : decode cX6_readLine 51 = .ok (.invokevirtual 144, 3) := by decide +kernel
theorem dX6_readLine_54 : decode cX6_readLine 54 = .ok (.ifCond .eq 10, 3) := by decide +kernel
theorem dX6_readLine_57 : decode cX6_readLine 57 = .ok (.aload_n 0, 1) := by decide +kernel
theorem dX6_readLine_58 : decode cX6_readLine 58 = .ok (.invokevirtual 147, 3) := by decide +kernel
theorem dX6_readLine_6 : decode cX6_readLine 6 = .ok (.ifCond .eq 10, 3) := by decide +kernel
theorem dX6_readLine_61 : decode cX6_readLine 61 = .ok (.goto 34, 3) := by decide +kernel
theorem dX6_readLine_64 : decode cX6_readLine 64 = .ok (.aload_n 0, 1) := by decide +kernel
theorem dX6_readLine_65 : decode cX6_readLine 65 = .ok (.ldc 150, 2) := by decide +kernel
theorem dX6_readLine_67 : decode cX6_readLine 67 = .ok (.invokevirtual 144, 3) := by decide +kernel
theorem dX6_readLine_70 : decode cX6_readLine 70 = .ok (.ifCond .eq 21, 3) := by decide +kernel
theorem dX6_readLine_73 : decode cX6_readLine 73 = .ok (.aload_n 0, 1) := by decide +kernel
theorem dX6_readLine_74 : decode cX6_readLine 74 = .ok (.getfield 12, 3) := by decide +kernel
theorem dX6_readLine_77 : decode cX6_readLine 77 = .ok (.getfield 152, 3) := by decide +kernel
theorem dX6_readLine_80 : decode cX6_readLine 80 = .ok (.invokevirtual 155, 3) := by decide +kernel
theorem dX6_readLine_83 : decode cX6_readLine 83 = .ok (.aload_n 0, 1) := by decide +kernel
theorem dX6_readLine_84 : decode cX6_readLine 84 = .ok (.iconst 0, 1) := by decide +kernel
theorem dX6_readLine_85 : decode cX6_readLine 85 = .ok (.invokevirtual 160, 3) := by decide +kernel
theorem dX6_readLine_88 : decode cX6_readLine 88 = .ok (.goto 7, 3) := by decide +kernel
theorem dX6_readLine_9 : decode cX6_readLine 9 = .ok (.aload_n 0, 1) := by decide +kernel
theorem dX6_readLine_91 : decode cX6_readLine 91 = .ok (.aload_n 0, 1) := by decide +kernel
theorem dX6_readLine_92 : decode cX6_readLine 92 = .ok (.invokevirtual 90, 3) := by decide +kernel
theorem dX6_readLine_95 : decode cX6_readLine 95 = .ok (.aload_n 0, 1) := by decide +kernel
theorem dX6_readLine_96 : decode cX6_readLine 96 = .ok (.invokevirtual 117, 3) := by decide +kernel
theorem dX6_readLine_99 : decode cX6_readLine 99 = .ok (.return_, 1) := by decide +kernel
theorem dX6_readTouch_0 : decode cX6_readTouch 0 = .ok (.aload_n 0, 1) := by decide +kernel
theorem dX6_readTouch_1 : decode cX6_readTouch 1 = .ok (.aload_n 0, 1) := by decide +kernel
theorem dX6_readTouch_10 : decode cX6_readTouch 10 = .ok (.invokevirtual 166, 3) := by decide +kernel
theorem dX6_readTouch_13 : decode cX6_readTouch 13 = .ok (.aload_n 0, 1) := by decide +kernel
theorem dX6_readTouch_14 : decode cX6_readTouch 14 = .ok (.iconst 0, 1) := by decide +kernel
theorem dX6_readTouch_15 : decode cX6_readTouch 15 = .ok (.aload_n 0, 1) := by decide +kernel
theorem dX6_readTouch_16 : decode cX6_readTouch 16 = .ok (.getfield 12, 3) := by decide +kernel
theorem dX6_readTouch_19 : decode cX6_readTouch 19 = .ok (.getfield 170, 3) := by decide +kernel
theorem dX6_readTouch_2 : decode cX6_readTouch 2 = .ok (.getfield 12, 3) := by decide +kernel
theorem dX6_readTouch_22 : decode cX6_readTouch 22 = .ok (.iconst 1, 1) := by decide +kernel
theorem dX6_readTouch_23 : decode cX6_readTouch 23 = .ok (.isub, 1) := by decide +kernel
theorem dX6_readTouch_24 : decode cX6_readTouch 24 = .ok (.invokevirtual 110, 3) := by decide +kernel
theorem dX6_readTouch_27 : decode cX6_readTouch 27 = .ok (.istore_n 1, 1) := by decide +kernel
theorem dX6_readTouch_28 : decode cX6_readTouch 28 = .ok (.iload_n 1, 1) := by decide +kernel
theorem dX6_readTouch_29 : decode cX6_readTouch 29 = .ok (.iconst (-1), 1) := by decide +kernel
theorem dX6_readTouch_30 : decode cX6_readTouch 30 = .ok (.if_icmp .ne 7, 3) := by decide +kernel
theorem dX6_readTouch_33 : decode cX6_readTouch 33 = .ok (.iconst 0, 1) := by decide +kernel
theorem dX6_readTouch_34 : decode cX6_readTouch 34 = .ok (.goto 16, 3) := by decide +kernel
theorem dX6_readTouch_37 : decode cX6_readTouch 37 = .ok (.aload_n 0, 1) := by decide +kernel
theorem dX6_readTouch_38 : decode cX6_readTouch 38 = .ok (.getfield 12, 3) := by decide +kernel
theorem dX6_readTouch_41 : decode cX6_readTouch 41 = .ok (.getfield 172, 3) := by decide +kernel
theorem dX6_readTouch_44 : decode cX6_readTouch 44 = .ok (.iload_n 1, 1) := by decide +kernel
theorem dX6_readTouch_45 : decode cX6_readTouch 45 = .ok (.iaload, 1) := by decide +kernel
theorem dX6_readTouch_46 : decode cX6_readTouch 46 = .ok (.iconst 1, 1) := by decide +kernel
theorem dX6_readTouch_47 : decode cX6_readTouch 47 = .ok (.iload_n 1, 1) := by decide +kernel
theorem dX6_readTouch_48 : decode cX6_readTouch 48 = .ok (.ishl, 1) := by decide +kernel
theorem dX6_readTouch_49 : decode cX6_readTouch 49 = .ok (.ior, 1) := by decide +kernel
theorem dX6_readTouch_5 : decode cX6_readTouch 5 = .ok (.getfield 163, 3) := by decide +kernel
theorem dX6_readTouch_50 : decode cX6_readTouch 50 = .ok (.istore_n 2, 1) := by decide +kernel
theorem dX6_readTouch_51 : decode cX6_readTouch 51 = .ok (.aload_n 0, 1) := by decide +kernel
theorem dX6_readTouch_52 : decode cX6_readTouch 52 = .ok (.iconst 0, 1) := by decide +kernel
theorem dX6_readTouch_53 : decode cX6_readTouch 53 = .ok (.aload_n 0, 1) := by decide +kernel
theorem dX6_readTouch_54 : decode cX6_readTouch 54 = .ok (.getfield 12, 3) := by decide +kernel
theorem dX6_readTouch_57 : decode cX6_readTouch 57 = .ok (.getfield 170, 3) := by decide +kernel
theorem dX6_readTouch_60 : decode cX6_readTouch 60 = .ok (.iconst 1, 1) := by decide +kernel
theorem dX6_readTouch_61 : decode cX6_readTouch 61 = .ok (.isub, 1) := by decide +kernel
theorem dX6_readTouch_62 : decode cX6_readTouch 62 = .ok (.iload_n 2, 1) := by decide +kernel
theorem dX6_readTouch_63 : decode cX6_readTouch 63 = .ok (.invokevirtual 97, 3) := by decide +kernel
theorem dX6_readTouch_66 : decode cX6_readTouch 66 = .ok (.istore_n 3, 1) := by decide +kernel
theorem dX6_readTouch_67 : decode cX6_readTouch 67 = .ok (.aload_n 0, 1) := by decide +kernel
theorem dX6_readTouch_68 : decode cX6_readTouch 68 = .ok (.ldc 175, 2) := by decide +kernel
theorem dX6_readTouch_70 : decode cX6_readTouch 70 = .ok (.invokevirtual 144, 3) := by decide +kernel
theorem dX6_readTouch_73 : decode cX6_readTouch 73 = .ok (.istore 4, 2) := by decide +kernel
theorem dX6_readTouch_75 : decode cX6_readTouch 75 = .ok (.aload_n 0, 1) := by decide +kernel
theorem dX6_readTouch_76 : decode cX6_readTouch 76 = .ok (.getfield 36, 3) := by decide +kernel
theorem dX6_readTouch_79 : decode cX6_readTouch 79 = .ok (.ifCond .ne 14, 3) := by decide +kernel
theorem dX6_readTouch_8 : decode cX6_readTouch 8 = .ok (.bipush 20, 2) := by decide +kernel
theorem dX6_readTouch_82 : decode cX6_readTouch 82 = .ok (.aload_n 0, 1) := by decide +kernel
theorem dX6_readTouch_83 : decode cX6_readTouch 83 = .ok (.getfield 12, 3) := by decide +kernel
theorem dX6_readTouch_86 : decode cX6_readTouch 86 = .ok (.iload_n 1, 1) := by decide +kernel
theorem dX6_readTouch_87 : decode cX6_readTouch 87 = .ok (.iload_n 3, 1) := by decide +kernel
theorem dX6_readTouch_88 : decode cX6_readTouch 88 = .ok (.iload 4, 2) := by decide +kernel
theorem dX6_readTouch_90 : decode cX6_readTouch 90 = .ok (.invokevirtual 177, 3) := by decide +kernel
theorem dX6_readTouch_93 : decode cX6_readTouch 93 = .ok (.return_, 1) := by decide +kernel
theorem dX9_clear_0 : decode cX9_clear 0 = .ok (.aload_n 0, 1) := by decide +kernel
theorem dX9_clear_1 : decode cX9_clear 1 = .ok (.iconst 0, 1) := by decide +kernel
theorem dX9_clear_10 : decode cX9_clear 10 = .ok (.aload_n 0, 1) := by decide +kernel
theorem dX9_clear_11 : decode cX9_clear 11 = .ok (.iconst 0, 1) := by decide +kernel
theorem dX9_clear_12 : decode cX9_clear 12 = .ok (.putfield 59, 3) := by decide +kernel
theorem dX9_clear_15 : decode cX9_clear 15 = .ok (.aload_n 0, 1) := by decide +kernel
theorem dX9_clear_16 : decode cX9_clear 16 = .ok (.iconst 0, 1) := by decide +kernel
theorem dX9_clear_17 : decode cX9_clear 17 = .ok (.putfield 62, 3) := by decide +kernel
theorem dX9_clear_2 : decode cX9_clear 2 = .ok (.putfield 52, 3) := by decide +kernel
theorem dX9_clear_20 : decode cX9_clear 20 = .ok (.aload_n 0, 1) := by decide +kernel
theorem dX9_clear_21 : decode cX9_clear 21 = .ok (.iconst 0, 1) := by decide +kernel
theorem dX9_clear_22 : decode cX9_clear 22 = .ok (.putfield 65, 3) := by decide +kernel
theorem dX9_clear_25 : decode cX9_clear 25 = .ok (.aload_n 0, 1) := by decide +kernel
theorem dX9_clear_26 : decode cX9_clear 26 = .ok (.iconst 0, 1) := by decide +kernel
theorem dX9_clear_27 : decode cX9_clear 27 = .ok (.putfield 68, 3) := by decide +kernel
theorem dX9_clear_30 : decode cX9_clear 30 = .ok (.aload_n 0, 1) := by decide +kernel
theorem dX9_clear_31 : decode cX9_clear 31 = .ok (.getfield 48, 3) := by decide +kernel
theorem dX9_clear_34 : decode cX9_clear 34 = .ok (.invokevirtual 71, 3) := by decide +kernel
theorem dX9_clear_37 : decode cX9_clear 37 = .ok (.aload_n 0, 1) := by decide +kernel
theorem dX9_clear_38 : decode cX9_clear 38 = .ok (.getfield 48, 3) := by decide +kernel
theorem dX9_clear_41 : decode cX9_clear 41 = .ok (.iconst 1, 1) := by decide +kernel
theorem dX9_clear_42 : decode cX9_clear 42 = .ok (.putfield 74, 3) := by decide +kernel
theorem dX9_clear_45 : decode cX9_clear 45 = .ok (.return_, 1) := by decide +kernel
theorem dX9_clear_5 : decode cX9_clear 5 = .ok (.aload_n 0, 1) := by decide +kernel
theorem dX9_clear_6 : decode cX9_clear 6 = .ok (.iconst 0, 1) := by decide +kernel
theorem dX9_clear_7 : decode cX9_clear 7 = .ok (.putfield 56, 3) := by decide +kernel
set_option maxHeartbeats 4000000 in
set_option maxRecDepth 4000 in
theorem kp_X6_readTouch_18 (l : Launch) (M : Mem) (hJ : Iw M) (hp0 : M 18 6 ≤ M 18 5 ∧ M 18 5 ≤ M 18 4 ∧ M 18 7 ≤ 4 * (M 18 5 - M 18 6)) : CV l yX6_readTouch cX6_readTouch 5 none 9 (fun ad => [.ref (ad 18)]) M (fun M' => Fr [18, 19, 20, 21] M M' ∧ (M' 18 4 = M 18 4 ∧ M' 18 6 ≤ M' 18 5 ∧ M' 18 5 ≤ M' 18 4 ∧ M' 18 7 ≤ 4 * (M' 18 5 - M' 18 6) ∧ M 18 6 ≤ M' 18 6) ∧ (Im (M 18 1 = 0) (tC M' = touchF (absC M, dC M)))) := by
  obtain ⟨hI, hW⟩ := hJ
  have hF : Fr [18, 19, 20, 21] M M := Fr.rf
  refine en_v (by decide +kernel) (fun ad => by exact Nat.le_of_ble_eq_true rfl) (fun D cy ad A p e s m args below meth c Q F hret => ?_)
  refine z_eq (ls' := [(0, .ref (ad 18))]) rfl rfl rfl ?_
  obtain ⟨u1, eu1⟩ : ∃ v : Int, v = M 19 0 := ⟨_, rfl⟩
  have ku1 : (-2147483648) ≤ u1 ∧ u1 ≤ 2147483647 := by have := hI.at (show Bd 19 0 = (-2147483648, 2147483647) from rfl); omega
  obtain ⟨u2, eu2⟩ : ∃ v : Int, v = M 19 1 := ⟨_, rfl⟩
  have ku2 : 0 ≤ u2 ∧ u2 ≤ 10 := by have := hI.at (show Bd 19 1 = (0, 10) from rfl); omega
  obtain ⟨u3, eu3⟩ : ∃ v : Int, v = M 19 2 := ⟨_, rfl⟩
  have ku3 : (-2147483648) ≤ u3 ∧ u3 ≤ 2147483647 := by have := hI.at (show Bd 19 2 = (-2147483648, 2147483647) from rfl); omega
  obtain ⟨u4, eu4⟩ : ∃ v : Int, v = M 18 1 := ⟨_, rfl⟩
  have ku4 : (-2147483648) ≤ u4 ∧ u4 ≤ 2147483647 := by have := hI.at (show Bd 18 1 = (-2147483648, 2147483647) from rfl); omega
  obtain ⟨u5, eu5⟩ : ∃ v : Int, v = M 18 4 := ⟨_, rfl⟩
  have ku5 : 0 ≤ u5 ∧ u5 ≤ 900 := by have := hI.at (show Bd 18 4 = (0, 900) from rfl); omega
  obtain ⟨u6, eu6⟩ : ∃ v : Int, v = M 18 5 := ⟨_, rfl⟩
  have ku6 : 0 ≤ u6 ∧ u6 ≤ 900 := by have := hI.at (show Bd 18 5 = (0, 900) from rfl); omega
  obtain ⟨u7, eu7⟩ : ∃ v : Int, v = M 18 6 := ⟨_, rfl⟩
  have ku7 : 0 ≤ u7 ∧ u7 ≤ 900 := by have := hI.at (show Bd 18 6 = (0, 900) from rfl); omega
  obtain ⟨u8, eu8⟩ : ∃ v : Int, v = M 18 7 := ⟨_, rfl⟩
  have ku8 : 0 ≤ u8 ∧ u8 ≤ 4 := by have := hI.at (show Bd 18 7 = (0, 4) from rfl); omega
  refine z_aload_n F dX6_readTouch_0 rfl (q := 0) rfl ?_
  refine z_aload_n F dX6_readTouch_1 rfl (q := 0) rfl ?_
  refine rf_X6_12 F gs_18 rfl dX6_readTouch_2 ?_
  refine gf_X6_163 F hI gs_19 rfl bd_19_2 dX6_readTouch_5 (fun v9 ev9 av9 bv9 => ?_)
  have zv9 : u3 = v9 := eu3.trans ev9.symm
  subst zv9
  refine z_bipush F dX6_readTouch_8 (by decide +kernel) ?_
  refine zv_v (rest := []) F (kp_X6_beginLine_18 l M ⟨hI, hW⟩ u3 (by omega) (by omega) 20 (by omega) (by omega) (by omega)) cs_X6_166 (T := TX6) (N := 9) (ci := 6) rfl gs_18 (by decide) (by decide) rfl rfl rfl (Nat.le_of_ble_eq_true rfl) dX6_readTouch_10 (fun M10 hI p11 => ?_)
  obtain ⟨hI, hW⟩ := hI
  obtain ⟨fp11, xp11, yp11⟩ := p11
  have hF := hF.call fp11 (by decide)
  have tM10_19_0 : M10 19 0 = M 19 0 := fp11.at (by decide)
  have tM10_19_1 : M10 19 1 = M 19 1 := fp11.at (by decide)
  have tM10_19_2 : M10 19 2 = M 19 2 := fp11.at (by decide)
  have tM10_19_3 : M10 19 3 = M 19 3 := fp11.at (by decide)
  have tM10_19_4 : M10 19 4 = M 19 4 := fp11.at (by decide)
  refine z_aload_n F dX6_readTouch_13 rfl (q := 0) rfl ?_
  refine z_iconst F dX6_readTouch_14 ?_
  refine z_aload_n F dX6_readTouch_15 rfl (q := 0) rfl ?_
  refine rf_X6_12 F gs_18 rfl dX6_readTouch_16 ?_
  refine gf_X6_170 F hI gs_19 rfl bd_19_1 dX6_readTouch_19 (fun v12 ev12 av12 bv12 => ?_)
  have q13 : u2 = M10 19 1 := eu2.trans ((fp11.at (by decide)) : M10 19 1 = _).symm
  have zv12 : u2 = v12 := q13.trans ev12.symm
  subst zv12
  refine z_iconst F dX6_readTouch_22 ?_
  refine z_isub F dX6_readTouch_23 ?_
  refine zv_i (rest := []) F (kp_X6_takeNumber_18 l M10 ⟨hI, hW⟩ 0 (by omega) (by omega) (u2 - 1) (by omega) (by omega) (by omega)) cs_X6_110 (T := TX6) (N := 9) (ci := 6) rfl gs_18 (by decide) (by decide) rfl rfl rfl (Nat.le_of_ble_eq_true rfl) dX6_readTouch_24 (fun v14 M15 rv14 hI p16 => ?_)
  obtain ⟨hI, hW⟩ := hI
  obtain ⟨⟨av14, bv14⟩, fp16, xp16, yp16⟩ := p16
  have hF := hF.call fp16 (by decide)
  have tM15_19_0 : M15 19 0 = M10 19 0 := fp16.at (by decide)
  have tM15_19_1 : M15 19 1 = M10 19 1 := fp16.at (by decide)
  have tM15_19_2 : M15 19 2 = M10 19 2 := fp16.at (by decide)
  have tM15_19_3 : M15 19 3 = M10 19 3 := fp16.at (by decide)
  have tM15_19_4 : M15 19 4 = M10 19 4 := fp16.at (by decide)
  have hkv14 : -1 ≤ v14 ∧ v14 ≤ 9 := by omega
  refine z_istore_n F dX6_readTouch_27 rfl (by decide) (ls' := [(1, ii v14), (0, .ref (ad 18))]) rfl ?_
  refine z_iload_n F dX6_readTouch_28 rfl (q := 0) rfl ?_
  refine z_iconst F dX6_readTouch_29 ?_
  refine z_icmp_ne (tgt := 37) F dX6_readTouch_30 (by decide +kernel) (by omega) (by omega) (fun c17 => ?_) (fun c17 => ?_)
  · refine z_aload_n F dX6_readTouch_37 rfl (q := 1) rfl ?_
    refine rf_X6_12 F gs_18 rfl dX6_readTouch_38 ?_
    refine rf_X6_172 F gs_19 rfl dX6_readTouch_41 ?_
    refine z_iload_n F dX6_readTouch_44 rfl (q := 0) rfl ?_
    refine z_iald F hI gs_20 (by omega) (by omega) (by decide) bd_20 dX6_readTouch_45 (fun v18 (ev18 : v18 = M15 20 _) av18 bv18 => ?_)
    refine z_iconst F dX6_readTouch_46 ?_
    refine z_iload_n F dX6_readTouch_47 rfl (q := 0) rfl ?_
    refine z_shl1 (k := 9) F dX6_readTouch_48 (by decide) (by omega) (by omega) (fun v19 ev19 av19 bv19 => ?_)
    refine z_ior0 F dX6_readTouch_49 (fun v20 ev20 rv20 => ?_)
    refine z_istore_n F dX6_readTouch_50 rfl (by decide) (ls' := [(2, ii v20), (1, ii v14), (0, .ref (ad 18))]) rfl ?_
    refine z_aload_n F dX6_readTouch_51 rfl (q := 2) rfl ?_
    refine z_iconst F dX6_readTouch_52 ?_
    refine z_aload_n F dX6_readTouch_53 rfl (q := 2) rfl ?_
    refine rf_X6_12 F gs_18 rfl dX6_readTouch_54 ?_
    refine gf_X6_170 F hI gs_19 rfl bd_19_1 dX6_readTouch_57 (fun v21 ev21 av21 bv21 => ?_)
    have q22 : u2 = M15 19 1 := q13.trans ((fp16.at (by decide)) : M15 19 1 = _).symm
    have zv21 : u2 = v21 := q22.trans ev21.symm
    subst zv21
    refine z_iconst F dX6_readTouch_60 ?_
    refine z_isub F dX6_readTouch_61 ?_
    refine z_iload_n F dX6_readTouch_62 rfl (q := 0) rfl ?_
    refine zv_i (rest := []) F (kp_X6_takeNumberBut_18 l M15 ⟨hI, hW⟩ 0 (by omega) (by omega) (u2 - 1) (by omega) (by omega) v20 (by omega) (by omega) (by omega)) cs_X6_97 (T := TX6) (N := 9) (ci := 6) rfl gs_18 (by decide) (by decide) rfl rfl rfl (Nat.le_of_ble_eq_true rfl) dX6_readTouch_63 (fun v23 M24 rv23 hI p25 => ?_)
    obtain ⟨hI, hW⟩ := hI
    obtain ⟨⟨av23, bv23⟩, fp25, xp25, yp25⟩ := p25
    have hF := hF.call fp25 (by decide)
    have tM24_19_0 : M24 19 0 = M15 19 0 := fp25.at (by decide)
    have tM24_19_1 : M24 19 1 = M15 19 1 := fp25.at (by decide)
    have tM24_19_2 : M24 19 2 = M15 19 2 := fp25.at (by decide)
    have tM24_19_3 : M24 19 3 = M15 19 3 := fp25.at (by decide)
    have tM24_19_4 : M24 19 4 = M15 19 4 := fp25.at (by decide)
    have hkv23 : -1 ≤ v23 ∧ v23 ≤ 9 := by omega
    refine z_istore_n F dX6_readTouch_66 rfl (by decide) (ls' := [(3, ii v23), (2, ii v20), (1, ii v14), (0, .ref (ad 18))]) rfl ?_
    refine z_aload_n F dX6_readTouch_67 rfl (q := 3) rfl ?_
    refine z_ldcS (j := 4) F dX6_readTouch_68 rfl rfl rfl ?_
    refine z_eq (st' := [.ref (ad 1004), .ref (ad 18)]) rfl rfl rfl ?_
    refine zv_i (rest := []) F (kp_X6_takeWord_18_1004 l M24 ⟨hI, hW⟩ (by omega)) cs_X6_144 (T := TX6) (N := 9) (ci := 6) rfl gs_18 (by decide) (by decide) rfl rfl rfl (Nat.le_of_ble_eq_true rfl) dX6_readTouch_70 (fun v26 M27 rv26 hI p28 => ?_)
    obtain ⟨hI, hW⟩ := hI
    obtain ⟨⟨av26, bv26⟩, fp28, xp28, yp28⟩ := p28
    have hF := hF.call fp28 (by decide)
    have tM27_19_0 : M27 19 0 = M24 19 0 := fp28.at (by decide)
    have tM27_19_1 : M27 19 1 = M24 19 1 := fp28.at (by decide)
    have tM27_19_2 : M27 19 2 = M24 19 2 := fp28.at (by decide)
    have tM27_19_3 : M27 19 3 = M24 19 3 := fp28.at (by decide)
    have tM27_19_4 : M27 19 4 = M24 19 4 := fp28.at (by decide)
    refine z_istore F dX6_readTouch_73 (by decide) (ls' := [(4, ii v26), (3, ii v23), (2, ii v20), (1, ii v14), (0, .ref (ad 18))]) rfl ?_
    refine z_aload_n F dX6_readTouch_75 rfl (q := 4) rfl ?_
    refine gf_X6_36 F hI gs_18 rfl bd_18_1 dX6_readTouch_76 (fun v29 ev29 av29 bv29 => ?_)
    refine z_if_ne (tgt := 93) F dX6_readTouch_79 (by decide +kernel) (by omega) (fun c30 => ?_) (fun c30 => ?_)
    · have yy31 : Im (M 18 1 = 0) (tC M27 = touchF (absC M, dC M)) := fun h0 => by
        have a1 : tc1 (dC M) (absC M) = absC M10 := by show begT (M 19 2) 20 (absC M) = _; rw [show M 19 2 = u3 from by omega]; exact yp11 h0
        have a2 : tc2 (dC M) (absC M) = absC M15 := by unfold tc2; rw [a1]; show numB 0 (M 19 1 - 1) noB _ = _; rw [show M 19 1 - 1 = (u2 - 1) from by omega]; exact yp16.1
        have a3 : tc3 (dC M) (absC M) = absC M24 := by
          unfold tc3
          rw [a1, a2]
          show numB 0 (M 19 1 - 1) (barA (aC M) _) _ = _
          rw [show M 19 1 - 1 = (u2 - 1) from by omega]
          refine (numB_v (fun g0 g1 g2 g3 => ?_)).trans yp25.1
          have f0 : M15 18 1 = 0 := (vC_fl M15).symm.trans g0
          have p9 := yp16.2 f0
          rw [← p9]
          exact (bar_C (by omega) (by omega) (by omega) g2 (by omega) (ev18.trans ((fp16.at (by decide) : M15 20 _ = _).trans (fp11.at (by decide) : M10 20 _ = _))) ev19 ev20).symm
        have a4 : tc4 (dC M) (absC M) = absC M27 := by unfold tc4; rw [a3]; exact yp28.2
        exact touch_4 a4 (fun q => by exfalso; have g9 := (vC_fl M27).symm.trans q; omega)
      exact hret _ 93 _ ⟨hI, hW⟩ ⟨hF, (by omega), yy31⟩ dX6_readTouch_93
    · refine z_aload_n F dX6_readTouch_82 rfl (q := 4) rfl ?_
      refine rf_X6_12 F gs_18 rfl dX6_readTouch_83 ?_
      refine z_iload_n F dX6_readTouch_86 rfl (q := 3) rfl ?_
      refine z_iload_n F dX6_readTouch_87 rfl (q := 1) rfl ?_
      refine z_iload F dX6_readTouch_88 (q := 0) rfl ?_
      have k32 : 0 ≤ v23 ∧ v23 ≤ 9 := by omega
      have k33 : 0 ≤ v14 ∧ v14 ≤ 9 := by omega
      refine zv_v (rest := []) F (k_X9_join_19 l M27 ⟨hI, hW⟩ v14 (by omega) (by omega) v23 (by omega) (by omega) v26 (by omega) (by omega)) cs_X6_177 (T := TX9) (N := 18) (ci := 9) rfl gs_19 (by decide) (by decide) rfl rfl rfl (Nat.le_of_ble_eq_true rfl) dX6_readTouch_90 (fun M34 hI p35 => ?_)
      obtain ⟨hI, hW⟩ := hI
      obtain ⟨fp35, yp35⟩ := p35
      have hF := hF.call fp35 (by decide)
      have tM34_18_1 : M34 18 1 = M27 18 1 := fp35.at (by decide)
      have tM34_18_4 : M34 18 4 = M27 18 4 := fp35.at (by decide)
      have tM34_18_5 : M34 18 5 = M27 18 5 := fp35.at (by decide)
      have tM34_18_6 : M34 18 6 = M27 18 6 := fp35.at (by decide)
      have tM34_18_7 : M34 18 7 = M27 18 7 := fp35.at (by decide)
      have yy36 : Im (M 18 1 = 0) (tC M34 = touchF (absC M, dC M)) := fun h0 => by
        have a1 : tc1 (dC M) (absC M) = absC M10 := by show begT (M 19 2) 20 (absC M) = _; rw [show M 19 2 = u3 from by omega]; exact yp11 h0
        have a2 : tc2 (dC M) (absC M) = absC M15 := by unfold tc2; rw [a1]; show numB 0 (M 19 1 - 1) noB _ = _; rw [show M 19 1 - 1 = (u2 - 1) from by omega]; exact yp16.1
        have a3 : tc3 (dC M) (absC M) = absC M24 := by
          unfold tc3
          rw [a1, a2]
          show numB 0 (M 19 1 - 1) (barA (aC M) _) _ = _
          rw [show M 19 1 - 1 = (u2 - 1) from by omega]
          refine (numB_v (fun g0 g1 g2 g3 => ?_)).trans yp25.1
          have f0 : M15 18 1 = 0 := (vC_fl M15).symm.trans g0
          have p9 := yp16.2 f0
          rw [← p9]
          exact (bar_C (by omega) (by omega) (by omega) g2 (by omega) (ev18.trans ((fp16.at (by decide) : M15 20 _ = _).trans (fp11.at (by decide) : M10 20 _ = _))) ev19 ev20).symm
        have a4 : tc4 (dC M) (absC M) = absC M27 := by unfold tc4; rw [a3]; exact yp28.2
        have p9 := yp16.2 (show M15 18 1 = 0 by omega)
        have q9 := yp25.2 (show M24 18 1 = 0 by omega)
        exact touch_4 (a4.trans (absC_eq (fun j => (fp35.at (by decide) : M34 18 j = _)) (fun j => (fp35.at (by decide) : M34 1 j = _)) : absC M34 = absC M27).symm) (fun _ => by rw [yp35 (by omega) (by omega), ((show dC M27 = dC M24 from dC_fr fp28 (by decide)).trans ((show dC M24 = dC M15 from dC_fr fp25 (by decide)).trans ((show dC M15 = dC M10 from dC_fr fp16 (by decide)).trans (show dC M10 = dC M from dC_fr fp11 (by decide))))), a1, a2, ← p9, ← q9])
      exact hret _ 93 _ ⟨hI, hW⟩ ⟨hF, (by omega), yy36⟩ dX6_readTouch_93
  · refine z_iconst F dX6_readTouch_33 ?_
    refine z_goto (tgt := 50) F dX6_readTouch_34 (by decide +kernel) ?_
    refine z_istore_n F dX6_readTouch_50 rfl (by decide) (ls' := [(2, ii 0), (1, ii v14), (0, .ref (ad 18))]) rfl ?_
    refine z_aload_n F dX6_readTouch_51 rfl (q := 2) rfl ?_
    refine z_iconst F dX6_readTouch_52 ?_
    refine z_aload_n F dX6_readTouch_53 rfl (q := 2) rfl ?_
    refine rf_X6_12 F gs_18 rfl dX6_readTouch_54 ?_
    refine gf_X6_170 F hI gs_19 rfl bd_19_1 dX6_readTouch_57 (fun v37 ev37 av37 bv37 => ?_)
    have q38 : u2 = M15 19 1 := q13.trans ((fp16.at (by decide)) : M15 19 1 = _).symm
    have zv37 : u2 = v37 := q38.trans ev37.symm
    subst zv37
    refine z_iconst F dX6_readTouch_60 ?_
    refine z_isub F dX6_readTouch_61 ?_
    refine z_iload_n F dX6_readTouch_62 rfl (q := 0) rfl ?_
    refine zv_i (rest := []) F (kp_X6_takeNumberBut_18 l M15 ⟨hI, hW⟩ 0 (by omega) (by omega) (u2 - 1) (by omega) (by omega) 0 (by omega) (by omega) (by omega)) cs_X6_97 (T := TX6) (N := 9) (ci := 6) rfl gs_18 (by decide) (by decide) rfl rfl rfl (Nat.le_of_ble_eq_true rfl) dX6_readTouch_63 (fun v39 M40 rv39 hI p41 => ?_)
    obtain ⟨hI, hW⟩ := hI
    obtain ⟨⟨av39, bv39⟩, fp41, xp41, yp41⟩ := p41
    have hF := hF.call fp41 (by decide)
    have tM40_19_0 : M40 19 0 = M15 19 0 := fp41.at (by decide)
    have tM40_19_1 : M40 19 1 = M15 19 1 := fp41.at (by decide)
    have tM40_19_2 : M40 19 2 = M15 19 2 := fp41.at (by decide)
    have tM40_19_3 : M40 19 3 = M15 19 3 := fp41.at (by decide)
    have tM40_19_4 : M40 19 4 = M15 19 4 := fp41.at (by decide)
    have hkv39 : -1 ≤ v39 ∧ v39 ≤ 9 := by omega
    refine z_istore_n F dX6_readTouch_66 rfl (by decide) (ls' := [(3, ii v39), (2, ii 0), (1, ii v14), (0, .ref (ad 18))]) rfl ?_
    refine z_aload_n F dX6_readTouch_67 rfl (q := 3) rfl ?_
    refine z_ldcS (j := 4) F dX6_readTouch_68 rfl rfl rfl ?_
    refine z_eq (st' := [.ref (ad 1004), .ref (ad 18)]) rfl rfl rfl ?_
    refine zv_i (rest := []) F (kp_X6_takeWord_18_1004 l M40 ⟨hI, hW⟩ (by omega)) cs_X6_144 (T := TX6) (N := 9) (ci := 6) rfl gs_18 (by decide) (by decide) rfl rfl rfl (Nat.le_of_ble_eq_true rfl) dX6_readTouch_70 (fun v42 M43 rv42 hI p44 => ?_)
    obtain ⟨hI, hW⟩ := hI
    obtain ⟨⟨av42, bv42⟩, fp44, xp44, yp44⟩ := p44
    have hF := hF.call fp44 (by decide)
    have tM43_19_0 : M43 19 0 = M40 19 0 := fp44.at (by decide)
    have tM43_19_1 : M43 19 1 = M40 19 1 := fp44.at (by decide)
    have tM43_19_2 : M43 19 2 = M40 19 2 := fp44.at (by decide)
    have tM43_19_3 : M43 19 3 = M40 19 3 := fp44.at (by decide)
    have tM43_19_4 : M43 19 4 = M40 19 4 := fp44.at (by decide)
    refine z_istore F dX6_readTouch_73 (by decide) (ls' := [(4, ii v42), (3, ii v39), (2, ii 0), (1, ii v14), (0, .ref (ad 18))]) rfl ?_
    refine z_aload_n F dX6_readTouch_75 rfl (q := 4) rfl ?_
    refine gf_X6_36 F hI gs_18 rfl bd_18_1 dX6_readTouch_76 (fun v45 ev45 av45 bv45 => ?_)
    refine z_if_ne (tgt := 93) F dX6_readTouch_79 (by decide +kernel) (by omega) (fun c46 => ?_) (fun c46 => ?_)
    · have yy47 : Im (M 18 1 = 0) (tC M43 = touchF (absC M, dC M)) := fun h0 => by
        have a1 : tc1 (dC M) (absC M) = absC M10 := by show begT (M 19 2) 20 (absC M) = _; rw [show M 19 2 = u3 from by omega]; exact yp11 h0
        have a2 : tc2 (dC M) (absC M) = absC M15 := by unfold tc2; rw [a1]; show numB 0 (M 19 1 - 1) noB _ = _; rw [show M 19 1 - 1 = (u2 - 1) from by omega]; exact yp16.1
        have a3 : tc3 (dC M) (absC M) = absC M40 := by
          unfold tc3
          rw [a1, a2]
          show numB 0 (M 19 1 - 1) (barA (aC M) _) _ = _
          rw [show M 19 1 - 1 = (u2 - 1) from by omega]
          refine (numB_v (fun g0 g1 g2 g3 => ?_)).trans yp41.1
          have f0 : M15 18 1 = 0 := (vC_fl M15).symm.trans g0
          exfalso
          omega
        have a4 : tc4 (dC M) (absC M) = absC M43 := by unfold tc4; rw [a3]; exact yp44.2
        exact touch_4 a4 (fun q => by exfalso; have g9 := (vC_fl M43).symm.trans q; omega)
      exact hret _ 93 _ ⟨hI, hW⟩ ⟨hF, (by omega), yy47⟩ dX6_readTouch_93
    · refine z_aload_n F dX6_readTouch_82 rfl (q := 4) rfl ?_
      refine rf_X6_12 F gs_18 rfl dX6_readTouch_83 ?_
      refine z_iload_n F dX6_readTouch_86 rfl (q := 3) rfl ?_
      refine z_iload_n F dX6_readTouch_87 rfl (q := 1) rfl ?_
      refine z_iload F dX6_readTouch_88 (q := 0) rfl ?_
      have k48 : 0 ≤ v39 ∧ v39 ≤ 9 := by omega
      have k49 : 0 ≤ v14 ∧ v14 ≤ 9 := by omega
      refine zv_v (rest := []) F (k_X9_join_19 l M43 ⟨hI, hW⟩ v14 (by omega) (by omega) v39 (by omega) (by omega) v42 (by omega) (by omega)) cs_X6_177 (T := TX9) (N := 18) (ci := 9) rfl gs_19 (by decide) (by decide) rfl rfl rfl (Nat.le_of_ble_eq_true rfl) dX6_readTouch_90 (fun M50 hI p51 => ?_)
      obtain ⟨hI, hW⟩ := hI
      obtain ⟨fp51, yp51⟩ := p51
      have hF := hF.call fp51 (by decide)
      have tM50_18_1 : M50 18 1 = M43 18 1 := fp51.at (by decide)
      have tM50_18_4 : M50 18 4 = M43 18 4 := fp51.at (by decide)
      have tM50_18_5 : M50 18 5 = M43 18 5 := fp51.at (by decide)
      have tM50_18_6 : M50 18 6 = M43 18 6 := fp51.at (by decide)
      have tM50_18_7 : M50 18 7 = M43 18 7 := fp51.at (by decide)
      have yy52 : Im (M 18 1 = 0) (tC M50 = touchF (absC M, dC M)) := fun h0 => by
        have a1 : tc1 (dC M) (absC M) = absC M10 := by show begT (M 19 2) 20 (absC M) = _; rw [show M 19 2 = u3 from by omega]; exact yp11 h0
        have a2 : tc2 (dC M) (absC M) = absC M15 := by unfold tc2; rw [a1]; show numB 0 (M 19 1 - 1) noB _ = _; rw [show M 19 1 - 1 = (u2 - 1) from by omega]; exact yp16.1
        have a3 : tc3 (dC M) (absC M) = absC M40 := by
          unfold tc3
          rw [a1, a2]
          show numB 0 (M 19 1 - 1) (barA (aC M) _) _ = _
          rw [show M 19 1 - 1 = (u2 - 1) from by omega]
          refine (numB_v (fun g0 g1 g2 g3 => ?_)).trans yp41.1
          have f0 : M15 18 1 = 0 := (vC_fl M15).symm.trans g0
          exfalso
          omega
        have a4 : tc4 (dC M) (absC M) = absC M43 := by unfold tc4; rw [a3]; exact yp44.2
        have p9 := yp16.2 (show M15 18 1 = 0 by omega)
        have q9 := yp41.2 (show M40 18 1 = 0 by omega)
        exact touch_4 (a4.trans (absC_eq (fun j => (fp51.at (by decide) : M50 18 j = _)) (fun j => (fp51.at (by decide) : M50 1 j = _)) : absC M50 = absC M43).symm) (fun _ => by rw [yp51 (by omega) (by omega), ((show dC M43 = dC M40 from dC_fr fp44 (by decide)).trans ((show dC M40 = dC M15 from dC_fr fp41 (by decide)).trans ((show dC M15 = dC M10 from dC_fr fp16 (by decide)).trans (show dC M10 = dC M from dC_fr fp11 (by decide))))), a1, a2, ← p9, ← q9])
      exact hret _ 93 _ ⟨hI, hW⟩ ⟨hF, (by omega), yy52⟩ dX6_readTouch_93
set_option maxHeartbeats 4000000 in
set_option maxRecDepth 4000 in
theorem kp_X6_readLine_18 (l : Launch) (M : Mem) (hJ : Iw M) (hp0 : M 18 6 ≤ M 18 5 ∧ M 18 5 ≤ M 18 4 ∧ M 18 7 ≤ 4 * (M 18 5 - M 18 6)) : CV l yX6_readLine cX6_readLine 1 none 74 (fun ad => [.ref (ad 18)]) M (fun M' => Fr [18, 19, 20, 21, 23, 24, 25, 26, 27, 28, 29, 31, 32] M M' ∧ (M' 18 4 = M 18 4 ∧ M' 18 6 ≤ M' 18 5 ∧ M' 18 5 ≤ M' 18 4 ∧ M' 18 7 ≤ 4 * (M' 18 5 - M' 18 6) ∧ M 18 6 ≤ M' 18 6 ∧ (M' 18 1 = 0 → M 18 6 < M' 18 6)) ∧ (Im (M 18 1 = 0) (tC M' = lineF (tC M)))) := by
  obtain ⟨hI, hW⟩ := hJ
  have hF : Fr [18, 19, 20, 21, 23, 24, 25, 26, 27, 28, 29, 31, 32] M M := Fr.rf
  refine en_v (by decide +kernel) (fun ad => by exact Nat.le_of_ble_eq_true rfl) (fun D cy ad A p e s m args below meth c Q F hret => ?_)
  refine z_eq (ls' := [(0, .ref (ad 18))]) rfl rfl rfl ?_
  refine z_aload_n F dX6_readLine_0 rfl (q := 0) rfl ?_
  refine z_ldcS (j := 3) F dX6_readLine_1 rfl rfl rfl ?_
  refine z_eq (st' := [.ref (ad 1003), .ref (ad 18)]) rfl rfl rfl ?_
  refine zv_i (rest := []) F (kp_X6_isWord_18_1003 l M ⟨hI, hW⟩ (by omega)) cs_X6_86 (T := TX6) (N := 9) (ci := 6) rfl gs_18 (by decide) (by decide) rfl rfl rfl (Nat.le_of_ble_eq_true rfl) dX6_readLine_3 (fun v1 M2 rv1 hI p3 => ?_)
  obtain ⟨hI, hW⟩ := hI
  obtain ⟨⟨av1, bv1⟩, rfl, xp3, yp3⟩ := p3
  refine z_if_eq (tgt := 16) F dX6_readLine_6 (by decide +kernel) (by omega) (fun c4 => ?_) (fun c4 => ?_)
  · refine z_aload_n F dX6_readLine_16 rfl (q := 0) rfl ?_
    refine z_ldcS (j := 5) F dX6_readLine_17 rfl rfl rfl ?_
    refine z_eq (st' := [.ref (ad 1005), .ref (ad 18)]) rfl rfl rfl ?_
    refine zv_i (rest := []) F (kp_X6_isWord_18_1005 l M ⟨hI, hW⟩ (by omega)) cs_X6_86 (T := TX6) (N := 9) (ci := 6) rfl gs_18 (by decide) (by decide) rfl rfl rfl (Nat.le_of_ble_eq_true rfl) dX6_readLine_19 (fun v5 M6 rv5 hI p7 => ?_)
    obtain ⟨hI, hW⟩ := hI
    obtain ⟨⟨av5, bv5⟩, rfl, xp7, yp7⟩ := p7
    refine z_if_eq (tgt := 32) F dX6_readLine_22 (by decide +kernel) (by omega) (fun c8 => ?_) (fun c8 => ?_)
    · refine z_aload_n F dX6_readLine_32 rfl (q := 0) rfl ?_
      refine z_ldcS (j := 10) F dX6_readLine_33 rfl rfl rfl ?_
      refine z_eq (st' := [.ref (ad 1010), .ref (ad 18)]) rfl rfl rfl ?_
      refine zv_i (rest := []) F (kp_X6_isWord_18_1010 l M ⟨hI, hW⟩ (by omega)) cs_X6_86 (T := TX6) (N := 9) (ci := 6) rfl gs_18 (by decide) (by decide) rfl rfl rfl (Nat.le_of_ble_eq_true rfl) dX6_readLine_35 (fun v9 M10 rv9 hI p11 => ?_)
      obtain ⟨hI, hW⟩ := hI
      obtain ⟨⟨av9, bv9⟩, rfl, xp11, yp11⟩ := p11
      refine z_if_eq (tgt := 48) F dX6_readLine_38 (by decide +kernel) (by omega) (fun c12 => ?_) (fun c12 => ?_)
      · refine z_aload_n F dX6_readLine_48 rfl (q := 0) rfl ?_
        refine z_ldcS (j := 13) F dX6_readLine_49 rfl rfl rfl ?_
        refine z_eq (st' := [.ref (ad 1013), .ref (ad 18)]) rfl rfl rfl ?_
        refine zv_i (rest := []) F (kp_X6_takeWord_18_1013 l M ⟨hI, hW⟩ (by omega)) cs_X6_144 (T := TX6) (N := 9) (ci := 6) rfl gs_18 (by decide) (by decide) rfl rfl rfl (Nat.le_of_ble_eq_true rfl) dX6_readLine_51 (fun v13 M14 rv13 hI p15 => ?_)
        obtain ⟨hI, hW⟩ := hI
        obtain ⟨⟨av13, bv13⟩, fp15, xp15, yp15⟩ := p15
        have hF := hF.call fp15 (by decide)
        refine z_if_eq (tgt := 64) F dX6_readLine_54 (by decide +kernel) (by omega) (fun c16 => ?_) (fun c16 => ?_)
        · refine z_aload_n F dX6_readLine_64 rfl (q := 0) rfl ?_
          refine z_ldcS (j := 18) F dX6_readLine_65 rfl rfl rfl ?_
          refine z_eq (st' := [.ref (ad 1018), .ref (ad 18)]) rfl rfl rfl ?_
          refine zv_i (rest := []) F (kp_X6_takeWord_18_1018 l M14 ⟨hI, hW⟩ (by omega)) cs_X6_144 (T := TX6) (N := 9) (ci := 6) rfl gs_18 (by decide) (by decide) rfl rfl rfl (Nat.le_of_ble_eq_true rfl) dX6_readLine_67 (fun v17 M18 rv17 hI p19 => ?_)
          obtain ⟨hI, hW⟩ := hI
          obtain ⟨⟨av17, bv17⟩, fp19, xp19, yp19⟩ := p19
          have hF := hF.call fp19 (by decide)
          refine z_if_eq (tgt := 91) F dX6_readLine_70 (by decide +kernel) (by omega) (fun c20 => ?_) (fun c20 => ?_)
          · refine z_aload_n F dX6_readLine_91 rfl (q := 0) rfl ?_
            refine zv_v (rest := []) F (kp_X6_refuse_18 l M18 ⟨hI, hW⟩) cs_X6_90 (T := TX6) (N := 9) (ci := 6) rfl gs_18 (by decide) (by decide) rfl rfl rfl (Nat.le_of_ble_eq_true rfl) dX6_readLine_92 (fun M21 hI p22 => ?_)
            obtain ⟨hI, hW⟩ := hI
            obtain ⟨fp22, xp22, yp22⟩ := p22
            have hF := hF.call fp22 (by decide)
            refine z_aload_n F dX6_readLine_95 rfl (q := 0) rfl ?_
            refine zv_v (rest := []) F (kp_X6_endLine_18 l M21 ⟨hI, hW⟩ (by omega)) cs_X6_117 (T := TX6) (N := 9) (ci := 6) rfl gs_18 (by decide) (by decide) rfl rfl rfl (Nat.le_of_ble_eq_true rfl) dX6_readLine_96 (fun M23 hI p24 => ?_)
            obtain ⟨hI, hW⟩ := hI
            obtain ⟨fp24, xp24, yp24⟩ := p24
            have hF := hF.call fp24 (by decide)
            have b25 := wz_f yp15.1 (by omega)
            have g26 := took_e b25 yp15.2
            have b27 := wz_f yp19.1 (by omega)
            have g28 := (took_e b27 yp19.2).trans g26
            rw [g26] at b27
            have y29 := yp22
            rw [g28] at y29
            exact hret _ 99 _ ⟨hI, hW⟩ ⟨hF, (by omega), (fun h0 => ln_bad (by rw [tC_1]; exact wz_f yp3 (by omega)) (by rw [tC_1]; exact wz_f yp7 (by omega)) (by rw [tC_1]; exact wz_f yp11 (by omega)) (by rw [tC_1]; exact b25) (by rw [tC_1]; exact b27) (by rw [tC_1, tC_2 h0]; exact fz_e y29.symm (fun _ => ((show dC M21 = dC M18 from dC_fr fp22 (by decide)).trans ((show dC M18 = dC M14 from dC_fr fp19 (by decide)).trans (show dC M14 = dC M from dC_fr fp15 (by decide)))))) yp24)⟩ dX6_readLine_99
          · refine z_aload_n F dX6_readLine_73 rfl (q := 0) rfl ?_
            refine rf_X6_12 F gs_18 rfl dX6_readLine_74 ?_
            refine rf_X6_152 F gs_19 rfl dX6_readLine_77 ?_
            refine zv_v (rest := []) F (k_X2_strike_31 l M18 ⟨hI, hW⟩) cs_X6_155 (T := TX2) (N := 5) (ci := 2) rfl gs_31 (by decide) (by decide) rfl rfl rfl (Nat.le_of_ble_eq_true rfl) dX6_readLine_80 (fun M30 hI p31 => ?_)
            obtain ⟨hI, hW⟩ := hI
            have fp31 := p31
            have hF := hF.call fp31 (by decide)
            have tM30_18_1 : M30 18 1 = M18 18 1 := fp31.at (by decide)
            have tM30_18_4 : M30 18 4 = M18 18 4 := fp31.at (by decide)
            have tM30_18_5 : M30 18 5 = M18 18 5 := fp31.at (by decide)
            have tM30_18_6 : M30 18 6 = M18 18 6 := fp31.at (by decide)
            have tM30_18_7 : M30 18 7 = M18 18 7 := fp31.at (by decide)
            refine z_aload_n F dX6_readLine_83 rfl (q := 0) rfl ?_
            refine z_iconst F dX6_readLine_84 ?_
            refine zv_v (rest := []) F ((RdX_all l 61).1 M30 ⟨hI, hW⟩ 0 (by omega) (by omega) (by omega) (by omega)) cs_X6_160 (T := TX6) (N := 9) (ci := 6) rfl gs_18 (by decide) (by decide) rfl rfl rfl (Nat.le_of_ble_eq_true rfl) dX6_readLine_85 (fun M32 hI p33 => ?_)
            obtain ⟨hI, hW⟩ := hI
            obtain ⟨fp33, xp33, yp33⟩ := p33
            have hF := hF.call fp33 (by decide)
            refine z_goto (tgt := 95) F dX6_readLine_88 (by decide +kernel) ?_
            refine z_aload_n F dX6_readLine_95 rfl (q := 0) rfl ?_
            refine zv_v (rest := []) F (kp_X6_endLine_18 l M32 ⟨hI, hW⟩ (by omega)) cs_X6_117 (T := TX6) (N := 9) (ci := 6) rfl gs_18 (by decide) (by decide) rfl rfl rfl (Nat.le_of_ble_eq_true rfl) dX6_readLine_96 (fun M34 hI p35 => ?_)
            obtain ⟨hI, hW⟩ := hI
            obtain ⟨fp35, xp35, yp35⟩ := p35
            have hF := hF.call fp35 (by decide)
            have b36 := wz_f yp15.1 (by omega)
            have g37 := took_e b36 yp15.2
            have b38 := wz_t yp19.1 (by omega)
            have a39 := took_a b38 yp19.2
            rw [g37] at a39 b38
            have y40 := yp33
            rw [(absC_eq (fun j => (fp31.at (by decide) : M30 18 j = _)) (fun j => (fp31.at (by decide) : M30 1 j = _)) : absC M30 = absC M18), ← a39] at y40
            exact hret _ 99 _ ⟨hI, hW⟩ ⟨hF, (by omega), (fun h0 => ln_law (by rw [tC_1]; exact wz_f yp3 (by omega)) (by rw [tC_1]; exact wz_f yp7 (by omega)) (by rw [tC_1]; exact wz_f yp11 (by omega)) (by rw [tC_1]; exact b36) (by rw [tC_1]; exact b38) (A := absC M32) (by rw [tC_1]; exact y40) (by rw [tC_2 h0]; exact fz_e rfl (fun _ => ((show dC M32 = dC M30 from dC_fr fp33 (by decide)).trans ((show dC M30 = dC M18 from dC_fr fp31 (by decide)).trans ((show dC M18 = dC M14 from dC_fr fp19 (by decide)).trans (show dC M14 = dC M from dC_fr fp15 (by decide))))))) yp35)⟩ dX6_readLine_99
        · refine z_aload_n F dX6_readLine_57 rfl (q := 0) rfl ?_
          refine zv_v (rest := []) F (kp_X6_readZero_18 l M14 ⟨hI, hW⟩ (by omega)) cs_X6_147 (T := TX6) (N := 9) (ci := 6) rfl gs_18 (by decide) (by decide) rfl rfl rfl (Nat.le_of_ble_eq_true rfl) dX6_readLine_58 (fun M41 hI p42 => ?_)
          obtain ⟨hI, hW⟩ := hI
          obtain ⟨fp42, xp42, yp42⟩ := p42
          have hF := hF.call fp42 (by decide)
          refine z_goto (tgt := 95) F dX6_readLine_61 (by decide +kernel) ?_
          refine z_aload_n F dX6_readLine_95 rfl (q := 0) rfl ?_
          refine zv_v (rest := []) F (kp_X6_endLine_18 l M41 ⟨hI, hW⟩ (by omega)) cs_X6_117 (T := TX6) (N := 9) (ci := 6) rfl gs_18 (by decide) (by decide) rfl rfl rfl (Nat.le_of_ble_eq_true rfl) dX6_readLine_96 (fun M43 hI p44 => ?_)
          obtain ⟨hI, hW⟩ := hI
          obtain ⟨fp44, xp44, yp44⟩ := p44
          have hF := hF.call fp44 (by decide)
          have b45 := wz_t yp15.1 (by omega)
          have a46 := took_a b45 yp15.2
          exact hret _ 99 _ ⟨hI, hW⟩ ⟨hF, (by omega), (fun h0 => ln_zero (by rw [tC_1]; exact wz_f yp3 (by omega)) (by rw [tC_1]; exact wz_f yp7 (by omega)) (by rw [tC_1]; exact wz_f yp11 (by omega)) (by rw [tC_1]; exact b45) (by rw [yp42, tC_1, tC_2 h0, a46, (show dC M14 = dC M from dC_fr fp15 (by decide))]) yp44)⟩ dX6_readLine_99
      · refine z_aload_n F dX6_readLine_41 rfl (q := 0) rfl ?_
        refine zv_v (rest := []) F (kp_X6_readEvent_18 l M ⟨hI, hW⟩ (by omega)) cs_X6_139 (T := TX6) (N := 9) (ci := 6) rfl gs_18 (by decide) (by decide) rfl rfl rfl (Nat.le_of_ble_eq_true rfl) dX6_readLine_42 (fun M47 hI p48 => ?_)
        obtain ⟨hI, hW⟩ := hI
        obtain ⟨fp48, xp48, yp48⟩ := p48
        have hF := hF.call fp48 (by decide)
        refine z_goto (tgt := 95) F dX6_readLine_45 (by decide +kernel) ?_
        refine z_aload_n F dX6_readLine_95 rfl (q := 0) rfl ?_
        refine zv_v (rest := []) F (kp_X6_endLine_18 l M47 ⟨hI, hW⟩ (by omega)) cs_X6_117 (T := TX6) (N := 9) (ci := 6) rfl gs_18 (by decide) (by decide) rfl rfl rfl (Nat.le_of_ble_eq_true rfl) dX6_readLine_96 (fun M49 hI p50 => ?_)
        obtain ⟨hI, hW⟩ := hI
        obtain ⟨fp50, xp50, yp50⟩ := p50
        have hF := hF.call fp50 (by decide)
        exact hret _ 99 _ ⟨hI, hW⟩ ⟨hF, (by omega), (fun h0 => ln_event (by rw [tC_1]; exact wz_f yp3 (by omega)) (by rw [tC_1]; exact wz_f yp7 (by omega)) (by rw [tC_1]; exact wz_t yp11 (by omega)) (by rw [tC_0 h0]; exact yp48 h0) yp50)⟩ dX6_readLine_99
    · refine z_aload_n F dX6_readLine_25 rfl (q := 0) rfl ?_
      refine zv_v (rest := []) F (kp_X6_readThing_18 l M ⟨hI, hW⟩ (by omega)) cs_X6_134 (T := TX6) (N := 9) (ci := 6) rfl gs_18 (by decide) (by decide) rfl rfl rfl (Nat.le_of_ble_eq_true rfl) dX6_readLine_26 (fun M51 hI p52 => ?_)
      obtain ⟨hI, hW⟩ := hI
      obtain ⟨fp52, xp52, yp52⟩ := p52
      have hF := hF.call fp52 (by decide)
      refine z_goto (tgt := 95) F dX6_readLine_29 (by decide +kernel) ?_
      refine z_aload_n F dX6_readLine_95 rfl (q := 0) rfl ?_
      refine zv_v (rest := []) F (kp_X6_endLine_18 l M51 ⟨hI, hW⟩ (by omega)) cs_X6_117 (T := TX6) (N := 9) (ci := 6) rfl gs_18 (by decide) (by decide) rfl rfl rfl (Nat.le_of_ble_eq_true rfl) dX6_readLine_96 (fun M53 hI p54 => ?_)
      obtain ⟨hI, hW⟩ := hI
      obtain ⟨fp54, xp54, yp54⟩ := p54
      have hF := hF.call fp54 (by decide)
      exact hret _ 99 _ ⟨hI, hW⟩ ⟨hF, (by omega), (fun h0 => ln_thing (by rw [tC_1]; exact wz_f yp3 (by omega)) (by rw [tC_1]; exact wz_t yp7 (by omega)) (by rw [tC_0 h0]; exact yp52 h0) yp54)⟩ dX6_readLine_99
  · refine z_aload_n F dX6_readLine_9 rfl (q := 0) rfl ?_
    refine zv_v (rest := []) F (kp_X6_readTouch_18 l M ⟨hI, hW⟩ (by omega)) cs_X6_129 (T := TX6) (N := 9) (ci := 6) rfl gs_18 (by decide) (by decide) rfl rfl rfl (Nat.le_of_ble_eq_true rfl) dX6_readLine_10 (fun M55 hI p56 => ?_)
    obtain ⟨hI, hW⟩ := hI
    obtain ⟨fp56, xp56, yp56⟩ := p56
    have hF := hF.call fp56 (by decide)
    refine z_goto (tgt := 95) F dX6_readLine_13 (by decide +kernel) ?_
    refine z_aload_n F dX6_readLine_95 rfl (q := 0) rfl ?_
    refine zv_v (rest := []) F (kp_X6_endLine_18 l M55 ⟨hI, hW⟩ (by omega)) cs_X6_117 (T := TX6) (N := 9) (ci := 6) rfl gs_18 (by decide) (by decide) rfl rfl rfl (Nat.le_of_ble_eq_true rfl) dX6_readLine_96 (fun M57 hI p58 => ?_)
    obtain ⟨hI, hW⟩ := hI
    obtain ⟨fp58, xp58, yp58⟩ := p58
    have hF := hF.call fp58 (by decide)
    exact hret _ 99 _ ⟨hI, hW⟩ ⟨hF, (by omega), (fun h0 => ln_touch  (by rw [tC_1]; exact wz_t yp3 (by omega)) (by rw [tC_0 h0]; exact yp56 h0) yp58)⟩ dX6_readLine_99
set_option maxRecDepth 4000 in
theorem k_X9_clear_19 (l : Launch) (M : Mem) (hJ : Iw M) : CV l yX9_clear cX9_clear 1 none 2 (fun ad => [.ref (ad 19)]) M (fun M' => Fr [19, 31] M M' ∧ (M' 19 0 = 0 ∧ M' 19 2 = 0 ∧ M' 19 3 = 0 ∧ M' 19 4 = 0)) := by
  obtain ⟨hI, hW⟩ := hJ
  have hF : Fr [19, 31] M M := Fr.rf
  refine en_v (by decide +kernel) (fun ad => by exact Nat.le_of_ble_eq_true rfl) (fun D cy ad A p e s m args below meth c Q F hret => ?_)
  refine z_eq (ls' := [(0, .ref (ad 19))]) rfl rfl rfl ?_
  refine z_aload_n F dX9_clear_0 rfl (q := 0) rfl ?_
  refine z_iconst F dX9_clear_1 ?_
  refine pf_X9_52 F hI gs_19 rfl bd_19_0 rfl rfl dX9_clear_2 (by omega) (by omega) (fun M2 hI sf1 f1 => ?_)
  have hF := hF.wr f1 (by decide) (by decide)
  have hW : WFk M2 := hW.site f1 (by decide)
  refine z_aload_n F dX9_clear_5 rfl (q := 0) rfl ?_
  refine z_iconst F dX9_clear_6 ?_
  refine pf_X9_56 F hI gs_19 rfl bd_19_1 rfl rfl dX9_clear_7 (by omega) (by omega) (fun M4 hI sf3 f3 => ?_)
  have hF := hF.wr f3 (by decide) (by decide)
  have hW : WFk M4 := hW.site f3 (by decide)
  refine z_aload_n F dX9_clear_10 rfl (q := 0) rfl ?_
  refine z_iconst F dX9_clear_11 ?_
  refine pf_X9_59 F hI gs_19 rfl bd_19_2 rfl rfl dX9_clear_12 (by omega) (by omega) (fun M6 hI sf5 f5 => ?_)
  have hF := hF.wr f5 (by decide) (by decide)
  have hW : WFk M6 := hW.site f5 (by decide)
  refine z_aload_n F dX9_clear_15 rfl (q := 0) rfl ?_
  refine z_iconst F dX9_clear_16 ?_
  refine pf_X9_62 F hI gs_19 rfl bd_19_3 rfl rfl dX9_clear_17 (by omega) (by omega) (fun M8 hI sf7 f7 => ?_)
  have hF := hF.wr f7 (by decide) (by decide)
  have hW : WFk M8 := hW.site f7 (by decide)
  refine z_aload_n F dX9_clear_20 rfl (q := 0) rfl ?_
  refine z_iconst F dX9_clear_21 ?_
  refine pf_X9_65 F hI gs_19 rfl bd_19_4 rfl rfl dX9_clear_22 (by omega) (by omega) (fun M10 hI sf9 f9 => ?_)
  have hF := hF.wr f9 (by decide) (by decide)
  have hW : WFk M10 := hW.site f9 (by decide)
  refine z_aload_n F dX9_clear_25 rfl (q := 0) rfl ?_
  refine z_iconst F dX9_clear_26 ?_
  refine pf_X9_68 F hI gs_19 rfl bd_19_12 rfl rfl dX9_clear_27 (by omega) (by omega) (fun M12 hI sf11 f11 => ?_)
  have hF := hF.wr f11 (by decide) (by decide)
  have hW : WFk M12 := hW.site f11 (by decide)
  refine z_aload_n F dX9_clear_30 rfl (q := 0) rfl ?_
  refine rf_X9_48 F gs_19 rfl dX9_clear_31 ?_
  refine zv_v (rest := []) F (k_X2_strike_31 l M12 ⟨hI, hW⟩) cs_X9_71 (T := TX2) (N := 5) (ci := 2) rfl gs_31 (by decide) (by decide) rfl rfl rfl (Nat.le_of_ble_eq_true rfl) dX9_clear_34 (fun M13 hI p14 => ?_)
  obtain ⟨hI, hW⟩ := hI
  have fp14 := p14
  have hF := hF.call fp14 (by decide)
  refine z_aload_n F dX9_clear_37 rfl (q := 0) rfl ?_
  refine rf_X9_48 F gs_19 rfl dX9_clear_38 ?_
  refine z_iconst F dX9_clear_41 ?_
  refine pf_X9_74 F hI gs_31 rfl bd_31_2 rfl rfl dX9_clear_42 (by omega) (by omega) (fun M16 hI sf15 f15 => ?_)
  have hF := hF.wr f15 (by decide) (by decide)
  have hW : WFk M16 := hW.site f15 (by decide)
  have q17 : 0 = M4 19 0 := sf1.symm.trans (f3 19 0 (fun q => absurd q.2 (by decide))).symm
  have q18 : 0 = M6 19 0 := q17.trans (f5 19 0 (fun q => absurd q.2 (by decide))).symm
  have q19 : 0 = M8 19 0 := q18.trans (f7 19 0 (fun q => absurd q.2 (by decide))).symm
  have q20 : 0 = M10 19 0 := q19.trans (f9 19 0 (fun q => absurd q.2 (by decide))).symm
  have q21 : 0 = M12 19 0 := q20.trans (f11 19 0 (fun q => absurd q.2 (by decide))).symm
  have q22 : 0 = M13 19 0 := q21.trans ((fp14.at (by decide)) : M13 19 0 = _).symm
  have q23 : 0 = M16 19 0 := q22.trans (f15 19 0 (fun q => absurd q.1 (by decide))).symm
  have q24 : 0 = M8 19 2 := sf5.symm.trans (f7 19 2 (fun q => absurd q.2 (by decide))).symm
  have q25 : 0 = M10 19 2 := q24.trans (f9 19 2 (fun q => absurd q.2 (by decide))).symm
  have q26 : 0 = M12 19 2 := q25.trans (f11 19 2 (fun q => absurd q.2 (by decide))).symm
  have q27 : 0 = M13 19 2 := q26.trans ((fp14.at (by decide)) : M13 19 2 = _).symm
  have q28 : 0 = M16 19 2 := q27.trans (f15 19 2 (fun q => absurd q.1 (by decide))).symm
  have q29 : 0 = M10 19 3 := sf7.symm.trans (f9 19 3 (fun q => absurd q.2 (by decide))).symm
  have q30 : 0 = M12 19 3 := q29.trans (f11 19 3 (fun q => absurd q.2 (by decide))).symm
  have q31 : 0 = M13 19 3 := q30.trans ((fp14.at (by decide)) : M13 19 3 = _).symm
  have q32 : 0 = M16 19 3 := q31.trans (f15 19 3 (fun q => absurd q.1 (by decide))).symm
  have q33 : 0 = M12 19 4 := sf9.symm.trans (f11 19 4 (fun q => absurd q.2 (by decide))).symm
  have q34 : 0 = M13 19 4 := q33.trans ((fp14.at (by decide)) : M13 19 4 = _).symm
  have q35 : 0 = M16 19 4 := q34.trans (f15 19 4 (fun q => absurd q.1 (by decide))).symm
  exact hret _ 45 _ ⟨hI, hW⟩ ⟨hF, (by omega)⟩ dX9_clear_45
