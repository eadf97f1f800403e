theorem dX6_readLine_0 : decode cX6_readLine 0 = .ok (.aload_n 0, 1) := by decide +kernel
theorem dX6_readLine_1 : decode cX6_readLine 1 = .ok (.ldc 127, 2) := by decide +kernel
theorem dX6_readLine_10 : decode cX6_readLine 10 = .ok (.invokevirtual 129, 3) := by decide +kernel
theorem dX6_readLine_13 : decode cX6_readLine 13 = .ok (.goto 82, 3) := by decide +kernel
theorem dX6_readLine_16 : decode cX6_readLine 16 = .ok (.aload_n 0, 1) := by decide +kernel
theorem dX6_readLine_17 : decode cX6_readLine 17 = .ok (.ldc 132, 2) := by decide +kernel
theorem dX6_readLine_19 : decode cX6_readLine 19 = .ok (.invokevirtual 86, 3) := by decide +kernel
theorem dX6_readLine_22 : decode cX6_readLine 22 = .ok (.ifCond .eq 10, 3) := by decide +kernel
theorem dX6_readLine_25 : decode cX6_readLine 25 = .ok (.aload_n 0, 1) := by decide +kernel
theorem dX6_readLine_26 : decode cX6_readLine 26 = .ok (.invokevirtual 134, 3) := by decide +kernel
theorem dX6_readLine_29 : decode cX6_readLine 29 = .ok (.goto 66, 3) := by decide +kernel
theorem dX6_readLine_3 : decode cX6_readLine 3 = .ok (.invokevirtual 86, 3) := by decide +kernel
theorem dX6_readLine_32 : decode cX6_readLine 32 = .ok (.aload_n 0, 1) := by decide +kernel
theorem dX6_readLine_33 : decode cX6_readLine 33 = .ok (.ldc 137, 2) := by decide +kernel
theorem dX6_readLine_35 : decode cX6_readLine 35 = .ok (.invokevirtual 86, 3) := by decide +kernel
theorem dX6_readLine_38 : decode cX6_readLine 38 = .ok (.ifCond .eq 10, 3) := by decide +kernel
theorem dX6_readLine_41 : decode cX6_readLine 41 = .ok (.aload_n 0, 1) := by decide +kernel
theorem dX6_readLine_42 : decode cX6_readLine 42 = .ok (.invokevirtual 139, 3) := by decide +kernel
theorem dX6_readLine_45 : decode cX6_readLine 45 = .ok (.goto 50, 3) := by decide +kernel
theorem dX6_readLine_48 : decode cX6_readLine 48 = .ok (.aload_n 0, 1) := by decide +kernel
theorem dX6_readLine_49 : decode cX6_readLine 49 = .ok (.ldc 142, 2) := by decide +kernel
theorem dX6_readLine_51 : decode cX6_readLine 51 = .ok (.invokevirtual 144, 3) := by decide +kernel
theorem dX6_readLine_54 : decode cX6_readLine 54 = .ok (.ifCond .eq 10, 3) := by decide +kernel
theorem dX6_readLine_57 : decode cX6_readLine 57 = .ok (.aload_n 0, 1) := by decide +kernel
theorem dX6_readLine_58 : decode cX6_readLine 58 = .ok (.invokevirtual 147, 3) := by decide +kernel
theorem dX6_readLine_6 : decode cX6_readLine 6 = .ok (.ifCond .eq 10, 3) := by decide +kernel
theorem dX6_readLine_61 : decode cX6_readLine 61 = .ok (.goto 34, 3) := by decide +kernel
theorem dX6_readLine_64 : decode cX6_readLine 64 = .ok (.aload_n 0, 1) := by decide +kernel
theorem dX6_readLine_65 : decode cX6_readLine 65 = .ok (.ldc 150, 2) := by decide +kernel
theorem dX6_readLine_67 : decode cX6_readLine 67 = .ok (.invokevirtual 144, 3) := by decide +kernel
theorem dX6_readLine_70 : decode cX6_readLine 70 = .ok (.ifCond .eq 21, 3) := by decide +kernel
theorem dX6_readLine_73 : decode cX6_readLine 73 = .ok (.aload_n 0, 1) := by decide +kernel
theorem dX6_readLine_74 : decode cX6_readLine 74 = .ok (.getfield 12, 3) := by decide +kernel
theorem dX6_readLine_77 : decode cX6_readLine 77 = .ok (.getfield 152, 3) := by decide +kernel
theorem dX6_readLine_80 : decode cX6_readLine 80 = .ok (.invokevirtual 155, 3) := by decide +kernel
theorem dX6_readLine_83 : decode cX6_readLine 83 = .ok (.aload_n 0, 1) := by decide +kernel
theorem dX6_readLine_84 : decode cX6_readLine 84 = .ok (.iconst 0, 1) := by decide +kernel
theorem dX6_readLine_85 : decode cX6_readLine 85 = .ok (.invokevirtual 160, 3) := by decide +kernel
theorem dX6_readLine_88 : decode cX6_readLine 88 = .ok (.goto 7, 3) := by decide +kernel
theorem dX6_readLine_9 : decode cX6_readLine 9 = .ok (.aload_n 0, 1) := by decide +kernel
theorem dX6_readLine_91 : decode cX6_readLine 91 = .ok (.aload_n 0, 1) := by decide +kernel
theorem dX6_readLine_92 : decode cX6_readLine 92 = .ok (.invokevirtual 90, 3) := by decide +kernel
theorem dX6_readLine_95 : decode cX6_readLine 95 = .ok (.aload_n 0, 1) := by decide +kernel
theorem dX6_readLine_96 : decode cX6_readLine 96 = .ok (.invokevirtual 117, 3) := by decide +kernel
theorem dX6_readLine_99 : decode cX6_readLine 99 = .ok (.return_, 1) := by decide +kernel
theorem dX6_readPlaces_0 : decode cX6_readPlaces 0 = .ok (.aload_n 0, 1) := by decide +kernel
theorem dX6_readPlaces_1 : decode cX6_readPlaces 1 = .ok (.ldc 104, 2) := by decide +kernel
theorem dX6_readPlaces_10 : decode cX6_readPlaces 10 = .ok (.invokevirtual 110, 3) := by decide +kernel
theorem dX6_readPlaces_13 : decode cX6_readPlaces 13 = .ok (.istore_n 1, 1) := by decide +kernel
theorem dX6_readPlaces_14 : decode cX6_readPlaces 14 = .ok (.aload_n 0, 1) := by decide +kernel
theorem dX6_readPlaces_15 : decode cX6_readPlaces 15 = .ok (.getfield 12, 3) := by decide +kernel
theorem dX6_readPlaces_18 : decode cX6_readPlaces 18 = .ok (.iload_n 1, 1) := by decide +kernel
theorem dX6_readPlaces_19 : decode cX6_readPlaces 19 = .ok (.invokevirtual 114, 3) := by decide +kernel
theorem dX6_readPlaces_22 : decode cX6_readPlaces 22 = .ok (.aload_n 0, 1) := by decide +kernel
theorem dX6_readPlaces_23 : decode cX6_readPlaces 23 = .ok (.invokevirtual 117, 3) := by decide +kernel
theorem dX6_readPlaces_26 : decode cX6_readPlaces 26 = .ok (.return_, 1) := by decide +kernel
theorem dX6_readPlaces_3 : decode cX6_readPlaces 3 = .ok (.invokevirtual 106, 3) := by decide +kernel
theorem dX6_readPlaces_6 : decode cX6_readPlaces 6 = .ok (.aload_n 0, 1) := by decide +kernel
theorem dX6_readPlaces_7 : decode cX6_readPlaces 7 = .ok (.iconst 1, 1) := by decide +kernel
theorem dX6_readPlaces_8 : decode cX6_readPlaces 8 = .ok (.bipush 10, 2) := by decide +kernel
theorem dX6_readTouch_0 : decode cX6_readTouch 0 = .ok (.aload_n 0, 1) := by decide +kernel
theorem dX6_readTouch_1 : decode cX6_readTouch 1 = .ok (.aload_n 0, 1) := by decide +kernel
theorem dX6_readTouch_10 : decode cX6_readTouch 10 = .ok (.invokevirtual 166, 3) := by decide +kernel
theorem dX6_readTouch_13 : decode cX6_readTouch 13 = .ok (.aload_n 0, 1) := by decide +kernel
theorem dX6_readTouch_14 : decode cX6_readTouch 14 = .ok (.iconst 0, 1) := by decide +kernel
theorem dX6_readTouch_15 : decode cX6_readTouch 15 = .ok (.aload_n 0, 1) := by decide +kernel
theorem dX6_readTouch_16 : decode cX6_readTouch 16 = .ok (.getfield 12, 3) := by decide +kernel
theorem dX6_readTouch_19 : decode cX6_readTouch 19 = .ok (.getfield 170, 3) := by decide +kernel
theorem dX6_readTouch_2 : decode cX6_readTouch 2 = .ok (.getfield 12, 3) := by decide +kernel
theorem dX6_readTouch_22 : decode cX6_readTouch 22 = .ok (.iconst 1, 1) := by decide +kernel
theorem dX6_readTouch_23 : decode cX6_readTouch 23 = .ok (.isub, 1) := by decide +kernel
theorem dX6_readTouch_24 : decode cX6_readTouch 24 = .ok (.invokevirtual 110, 3) := by decide +kernel
theorem dX6_readTouch_27 : decode cX6_readTouch 27 = .ok (.istore_n 1, 1) := by decide +kernel
theorem dX6_readTouch_28 : decode cX6_readTouch 28 = .ok (.iload_n 1, 1) := by decide +kernel
theorem dX6_readTouch_29 : decode cX6_readTouch 29 = .ok (.iconst (-1), 1) := by decide +kernel
theorem dX6_readTouch_30 : decode cX6_readTouch 30 = .ok (.if_icmp .ne 7, 3) := by decide +kernel
theorem dX6_readTouch_33 : decode cX6_readTouch 33 = .ok (.iconst 0, 1) := by decide +kernel
theorem dX6_readTouch_34 : decode cX6_readTouch 34 = .ok (.goto 16, 3) := by decide +kernel
theorem dX6_readTouch_37 : decode cX6_readTouch 37 = .ok (.aload_n 0, 1) := by decide +kernel
theorem dX6_readTouch_38 : decode cX6_readTouch 38 = .ok (.getfield 12, 3) := by decide +kernel
theorem dX6_readTouch_41 : decode cX6_readTouch 41 = .ok (.getfield 172, 3) := by decide +kernel
theorem dX6_readTouch_44 : decode cX6_readTouch 44 = .ok (.iload_n 1, 1) := by decide +kernel
theorem dX6_readTouch_45 : decode cX6_readTouch 45 = .ok (.iaload, 1) := by decide +kernel
theorem dX6_readTouch_46 : decode cX6_readTouch 46 = .ok (.iconst 1, 1) := by decide +kernel
theorem dX6_readTouch_47 : decode cX6_readTouch 47 = .ok (.iload_n 1, 1) := by decide +kernel
theorem dX6_readTouch_48 : decode cX6_readTouch 48 = .ok (.ishl, 1) := by decide +kernel
theorem dX6_readTouch_49 : decode cX6_readTouch 49 = .ok (.ior, 1) := by decide +kernel
theorem dX6_readTouch_5 : decode cX6_readTouch 5 = .ok (.getfield 163, 3) := by decide +kernel
theorem dX6_readTouch_50 : decode cX6_readTouch 50 = .ok (.istore_n 2, 1) := by decide +kernel
theorem dX6_readTouch_51 : decode cX6_readTouch 51 = .ok (.aload_n 0, 1) := by decide +kernel
theorem dX6_readTouch_52 : decode cX6_readTouch 52 = .ok (.iconst 0, 1) := by decide +kernel
theorem dX6_readTouch_53 : decode cX6_readTouch 53 = .ok (.aload_n 0, 1) := by decide +kernel
theorem dX6_readTouch_54 : decode cX6_readTouch 54 = .ok (.getfield 12, 3) := by decide +kernel
theorem dX6_readTouch_57 : decode cX6_readTouch 57 = .ok (.getfield 170, 3) := by decide +kernel
theorem dX6_readTouch_60 : decode cX6_readTouch 60 = .ok (.iconst 1, 1) := by decide +kernel
theorem dX6_readTouch_61 : decode cX6_readTouch 61 = .ok (.isub, 1) := by decide +kernel
theorem dX6_readTouch_62 : decode cX6_readTouch 62 = .ok (.iload_n 2, 1) := by decide +kernel
theorem dX6_readTouch_63 : decode cX6_readTouch 63 = .ok (.invokevirtual 97, 3) := by decide +kernel
theorem dX6_readTouch_66 : decode cX6_readTouch 66 = .ok (.istore_n 3, 1) := by decide +kernel
theorem dX6_readTouch_67 : decode cX6_readTouch 67 = .ok (.aload_n 0, 1) := by decide +kernel
theorem dX6_readTouch_68 : decode cX6_readTouch 68 = .ok (.ldc 175, 2) := by decide +kernel
theorem dX6_readTouch_70 : decode cX6_readTouch 70 = .ok (.invokevirtual 144, 3) := by decide +kernel
theorem dX6_readTouch_73 : decode cX6_readTouch 73 = .ok (.istore 4, 2) := by decide +kernel
theorem dX6_readTouch_75 : decode cX6_readTouch 75 = .ok (.aload_n 0, 1) := by decide +kernel
theorem dX6_readTouch_76 : decode cX6_readTouch 76 = .ok (.getfield 36, 3) := by decide +kernel
theorem dX6_readTouch_79 : decode cX6_readTouch 79 = .ok (.ifCond .ne 14, 3) := by decide +kernel
theorem dX6_readTouch_8 : decode cX6_readTouch 8 = .ok (.bipush 20, 2) := by decide +kernel
theorem dX6_readTouch_82 : decode cX6_readTouch 82 = .ok (.aload_n 0, 1) := by decide +kernel
theorem dX6_readTouch_83 : decode cX6_readTouch 83 = .ok (.getfield 12, 3) := by decide +kernel
theorem dX6_readTouch_86 : decode cX6_readTouch 86 = .ok (.iload_n 1, 1) := by decide +kernel
theorem dX6_readTouch_87 : decode cX6_readTouch 87 = .ok (.iload_n 3, 1) := by decide +kernel
theorem dX6_readTouch_88 : decode cX6_readTouch 88 = .ok (.iload 4, 2) := by decide +kernel
theorem dX6_readTouch_90 : decode cX6_readTouch 90 = .ok (.invokevirtual 177, 3) := by decide +kernel
theorem dX6_readTouch_93 : decode cX6_readTouch 93 = .ok (.return_, 1) := by decide +kernel
theorem dX9_clear_0 : decode cX9_clear 0 = .ok (.aload_n 0, 1) := by decide +kernel
theorem dX9_clear_1 : decode cX9_clear 1 = .ok (.iconst 0, 1) := by decide +kernel
theorem dX9_clear_10 : decode cX9_clear 10 = .ok (.aload_n 0, 1) := by decide +kernel
theorem dX9_clear_11 : decode cX9_clear 11 = .ok (.iconst 0, 1) := by decide +kernel
theorem dX9_clear_12 : decode cX9_clear 12 = .ok (.putfield 59, 3) := by decide +kernel
theorem dX9_clear_15 : decode cX9_clear 15 = .ok (.aload_n 0, 1) := by decide +kernel
theorem dX9_clear_16 : decode cX9_clear 16 = .ok (.iconst 0, 1) := by decide +kernel
theorem dX9_clear_17 : decode cX9_clear 17 = .ok (.putfield 62, 3) := by decide +kernel
theorem dX9_clear_2 : decode cX9_clear 2 = .ok (.putfield 52, 3) := by decide +kernel
theorem dX9_clear_20 : decode cX9_clear 20 = .ok (.aload_n 0, 1) := by decide +kernel
theorem dX9_clear_21 : decode cX9_clear 21 = .ok (.iconst 0, 1) := by decide +kernel
theorem dX9_clear_22 : decode cX9_clear 22 = .ok (.putfield 65, 3) := by decide +kernel
theorem dX9_clear_25 : decode cX9_clear 25 = .ok (.aload_n 0, 1) := by decide +kernel
theorem dX9_clear_26 : decode cX9_clear 26 = .ok (.iconst 0, 1) := by decide +kernel
theorem dX9_clear_27 : decode cX9_clear 27 = .ok (.putfield 68, 3) := by decide +kernel
theorem dX9_clear_30 : decode cX9_clear 30 = .ok (.aload_n 0, 1) := by decide +kernel
theorem dX9_clear_31 : decode cX9_clear 31 = .ok (.getfield 48, 3) := by decide +kernel
theorem dX9_clear_34 : decode cX9_clear 34 = .ok (.invokevirtual 71, 3) := by decide +kernel
theorem dX9_clear_37 : decode cX9_clear 37 = .ok (.aload_n 0, 1) := by decide +kernel
theorem dX9_clear_38 : decode cX9_clear 38 = .ok (.getfield 48, 3) := by decide +kernel
theorem dX9_clear_41 : decode cX9_clear 41 = .ok (.iconst 1, 1) := by decide +kernel
theorem dX9_clear_42 : decode cX9_clear 42 = .ok (.putfield 74, 3) := by decide +kernel
theorem dX9_clear_45 : decode cX9_clear 45 = .ok (.return_, 1) := by decide +kernel
theorem dX9_clear_5 : decode cX9_clear 5 = .ok (.aload_n 0, 1) := by decide +kernel
theorem dX9_clear_6 : decode cX9_clear 6 = .ok (.iconst 0, 1) := by decide +kernel
theorem dX9_clear_7 : decode cX9_clear 7 = .ok (.putfield 56, 3) := by decide +kernel
theorem dX9_open_0 : decode cX9_open 0 = .ok (.aload_n 0, 1) := by decide +kernel
theorem dX9_open_1 : decode cX9_open 1 = .ok (.iload_n 1, 1) := by decide +kernel
theorem dX9_open_11 : decode cX9_open 11 = .ok (.iconst 0, 1) := by decide +kernel
theorem dX9_open_12 : decode cX9_open 12 = .ok (.istore_n 2, 1) := by decide +kernel
theorem dX9_open_13 : decode cX9_open 13 = .ok (.iload_n 2, 1) := by decide +kernel
theorem dX9_open_14 : decode cX9_open 14 = .ok (.aload_n 0, 1) := by decide +kernel
theorem dX9_open_15 : decode cX9_open 15 = .ok (.getfield 56, 3) := by decide +kernel
theorem dX9_open_18 : decode cX9_open 18 = .ok (.if_icmp .ge 23, 3) := by decide +kernel
theorem dX9_open_2 : decode cX9_open 2 = .ok (.iconst 0, 1) := by decide +kernel
theorem dX9_open_21 : decode cX9_open 21 = .ok (.aload_n 0, 1) := by decide +kernel
theorem dX9_open_22 : decode cX9_open 22 = .ok (.getfield 9, 3) := by decide +kernel
theorem dX9_open_25 : decode cX9_open 25 = .ok (.iload_n 2, 1) := by decide +kernel
theorem dX9_open_26 : decode cX9_open 26 = .ok (.iconst 0, 1) := by decide +kernel
theorem dX9_open_27 : decode cX9_open 27 = .ok (.iastore, 1) := by decide +kernel
theorem dX9_open_28 : decode cX9_open 28 = .ok (.aload_n 0, 1) := by decide +kernel
theorem dX9_open_29 : decode cX9_open 29 = .ok (.getfield 15, 3) := by decide +kernel
theorem dX9_open_3 : decode cX9_open 3 = .ok (.bipush 10, 2) := by decide +kernel
theorem dX9_open_32 : decode cX9_open 32 = .ok (.iload_n 2, 1) := by decide +kernel
theorem dX9_open_33 : decode cX9_open 33 = .ok (.iconst 0, 1) := by decide +kernel
theorem dX9_open_34 : decode cX9_open 34 = .ok (.iastore, 1) := by decide +kernel
theorem dX9_open_35 : decode cX9_open 35 = .ok (.iinc 2 1, 3) := by decide +kernel
theorem dX9_open_38 : decode cX9_open 38 = .ok (.goto (-25), 3) := by decide +kernel
theorem dX9_open_41 : decode cX9_open 41 = .ok (.return_, 1) := by decide +kernel
theorem dX9_open_5 : decode cX9_open 5 = .ok (.invokestatic 101, 3) := by decide +kernel
theorem dX9_open_8 : decode cX9_open 8 = .ok (.putfield 56, 3) := by decide +kernel
set_option maxHeartbeats 4000000 in
set_option maxRecDepth 4000 in
theorem kp_X6_readTouch_18 (l : Launch) (M : Mem) (hJ : Iw M) (hp0 : M 18 6 ≤ M 18 5 ∧ M 18 5 ≤ M 18 4) : CV l yX6_readTouch cX6_readTouch 5 none 9 (fun ad => [.ref (ad 18)]) M (fun M' => Fr [18, 19, 20, 21] M M' ∧ (M' 18 4 = M 18 4 ∧ M' 18 6 ≤ M' 18 5 ∧ M' 18 5 ≤ M' 18 4)) := by
  obtain ⟨hI, hW⟩ := hJ
  have hF : Fr [18, 19, 20, 21] M M := Fr.rf
  refine en_v (by decide +kernel) (fun ad => by exact Nat.le_of_ble_eq_true rfl) (fun D cy ad A p e s m args below meth c Q F hret => ?_)
  refine z_eq (ls' := [(0, .ref (ad 18))]) rfl rfl rfl ?_
  refine z_aload_n F dX6_readTouch_0 rfl (q := 0) rfl ?_
  refine z_aload_n F dX6_readTouch_1 rfl (q := 0) rfl ?_
  refine rf_X6_12 F gs_18 rfl dX6_readTouch_2 ?_
  refine gf_X6_163 F hI gs_19 rfl bd_19_2 dX6_readTouch_5 (fun v1 ev1 av1 bv1 => ?_)
  refine z_bipush F dX6_readTouch_8 (by decide +kernel) ?_
  refine zv_v (rest := []) F (kp_X6_beginLine_18 l M ⟨hI, hW⟩ v1 (by omega) (by omega) 20 (by omega) (by omega) (by omega)) cs_X6_166 (T := TX6) (N := 9) (ci := 6) rfl gs_18 (by decide) (by decide) rfl rfl rfl (Nat.le_of_ble_eq_true rfl) dX6_readTouch_10 (fun M2 hI p3 => ?_)
  obtain ⟨hI, hW⟩ := hI
  obtain ⟨fp3, xp3⟩ := p3
  have hF := hF.call fp3 (by decide)
  refine z_aload_n F dX6_readTouch_13 rfl (q := 0) rfl ?_
  refine z_iconst F dX6_readTouch_14 ?_
  refine z_aload_n F dX6_readTouch_15 rfl (q := 0) rfl ?_
  refine rf_X6_12 F gs_18 rfl dX6_readTouch_16 ?_
  refine gf_X6_170 F hI gs_19 rfl bd_19_1 dX6_readTouch_19 (fun v4 ev4 av4 bv4 => ?_)
  refine z_iconst F dX6_readTouch_22 ?_
  refine z_isub F dX6_readTouch_23 ?_
  refine zv_i (rest := []) F (kp_X6_takeNumber_18 l M2 ⟨hI, hW⟩ 0 (by omega) (by omega) (v4 - 1) (by omega) (by omega) (by omega)) cs_X6_110 (T := TX6) (N := 9) (ci := 6) rfl gs_18 (by decide) (by decide) rfl rfl rfl (Nat.le_of_ble_eq_true rfl) dX6_readTouch_24 (fun v5 M6 rv5 hI p7 => ?_)
  obtain ⟨hI, hW⟩ := hI
  obtain ⟨⟨av5, bv5⟩, fp7, xp7⟩ := p7
  have hF := hF.call fp7 (by decide)
  have hkv5 : -1 ≤ v5 ∧ v5 ≤ 9 := by omega
  refine z_istore_n F dX6_readTouch_27 rfl (by decide) (ls' := [(1, ii v5), (0, .ref (ad 18))]) rfl ?_
  refine z_iload_n F dX6_readTouch_28 rfl (q := 0) rfl ?_
  refine z_iconst F dX6_readTouch_29 ?_
  refine z_icmp_ne (tgt := 37) F dX6_readTouch_30 (by decide +kernel) (by omega) (by omega) (fun c8 => ?_) (fun c8 => ?_)
  · refine z_aload_n F dX6_readTouch_37 rfl (q := 1) rfl ?_
    refine rf_X6_12 F gs_18 rfl dX6_readTouch_38 ?_
    refine rf_X6_172 F gs_19 rfl dX6_readTouch_41 ?_
    refine z_iload_n F dX6_readTouch_44 rfl (q := 0) rfl ?_
    refine z_iald F hI gs_20 (by omega) (by omega) (by decide) bd_20 dX6_readTouch_45 (fun v9 (ev9 : v9 = M6 20 _) av9 bv9 => ?_)
    refine z_iconst F dX6_readTouch_46 ?_
    refine z_iload_n F dX6_readTouch_47 rfl (q := 0) rfl ?_
    refine z_shl1 (k := 9) F dX6_readTouch_48 (by decide) (by omega) (by omega) (fun v10 ev10 av10 bv10 => ?_)
    refine z_ior0 F dX6_readTouch_49 (fun v11 ev11 rv11 => ?_)
    refine z_istore_n F dX6_readTouch_50 rfl (by decide) (ls' := [(2, ii v11), (1, ii v5), (0, .ref (ad 18))]) rfl ?_
    refine z_aload_n F dX6_readTouch_51 rfl (q := 2) rfl ?_
    refine z_iconst F dX6_readTouch_52 ?_
    refine z_aload_n F dX6_readTouch_53 rfl (q := 2) rfl ?_
    refine rf_X6_12 F gs_18 rfl dX6_readTouch_54 ?_
    refine gf_X6_170 F hI gs_19 rfl bd_19_1 dX6_readTouch_57 (fun v12 ev12 av12 bv12 => ?_)
    have q13 : v4 = M6 19 1 := ev4.trans ((fp7.at (by decide)) : M6 19 1 = _).symm
    have zv12 : v4 = v12 := q13.trans ev12.symm
    subst zv12
    refine z_iconst F dX6_readTouch_60 ?_
    refine z_isub F dX6_readTouch_61 ?_
    refine z_iload_n F dX6_readTouch_62 rfl (q := 0) rfl ?_
    refine zv_i (rest := []) F (kp_X6_takeNumberBut_18 l M6 ⟨hI, hW⟩ 0 (by omega) (by omega) (v4 - 1) (by omega) (by omega) v11 (by omega) (by omega) (by omega)) cs_X6_97 (T := TX6) (N := 9) (ci := 6) rfl gs_18 (by decide) (by decide) rfl rfl rfl (Nat.le_of_ble_eq_true rfl) dX6_readTouch_63 (fun v14 M15 rv14 hI p16 => ?_)
    obtain ⟨hI, hW⟩ := hI
    obtain ⟨⟨av14, bv14⟩, fp16, xp16⟩ := p16
    have hF := hF.call fp16 (by decide)
    have hkv14 : -1 ≤ v14 ∧ v14 ≤ 9 := by omega
    refine z_istore_n F dX6_readTouch_66 rfl (by decide) (ls' := [(3, ii v14), (2, ii v11), (1, ii v5), (0, .ref (ad 18))]) rfl ?_
    refine z_aload_n F dX6_readTouch_67 rfl (q := 3) rfl ?_
    refine z_ldcS (j := 4) F dX6_readTouch_68 rfl rfl rfl ?_
    refine z_eq (st' := [.ref (ad 1004), .ref (ad 18)]) rfl rfl rfl ?_
    refine zv_i (rest := []) F (kp_X6_takeWord_18_1004 l M15 ⟨hI, hW⟩ (by omega)) cs_X6_144 (T := TX6) (N := 9) (ci := 6) rfl gs_18 (by decide) (by decide) rfl rfl rfl (Nat.le_of_ble_eq_true rfl) dX6_readTouch_70 (fun v17 M18 rv17 hI p19 => ?_)
    obtain ⟨hI, hW⟩ := hI
    obtain ⟨⟨av17, bv17⟩, fp19, xp19⟩ := p19
    have hF := hF.call fp19 (by decide)
    refine z_istore F dX6_readTouch_73 (by decide) (ls' := [(4, ii v17), (3, ii v14), (2, ii v11), (1, ii v5), (0, .ref (ad 18))]) rfl ?_
    refine z_aload_n F dX6_readTouch_75 rfl (q := 4) rfl ?_
    refine gf_X6_36 F hI gs_18 rfl bd_18_1 dX6_readTouch_76 (fun v20 ev20 av20 bv20 => ?_)
    refine z_if_ne (tgt := 93) F dX6_readTouch_79 (by decide +kernel) (by omega) (fun c21 => ?_) (fun c21 => ?_)
    · exact hret _ 93 _ ⟨hI, hW⟩ ⟨hF, (by omega)⟩ dX6_readTouch_93
    · refine z_aload_n F dX6_readTouch_82 rfl (q := 4) rfl ?_
      refine rf_X6_12 F gs_18 rfl dX6_readTouch_83 ?_
      refine z_iload_n F dX6_readTouch_86 rfl (q := 3) rfl ?_
      refine z_iload_n F dX6_readTouch_87 rfl (q := 1) rfl ?_
      refine z_iload F dX6_readTouch_88 (q := 0) rfl ?_
      have k22 : 0 ≤ v14 ∧ v14 ≤ 9 := by omega
      have k23 : 0 ≤ v5 ∧ v5 ≤ 9 := by omega
      refine zv_v (rest := []) F (k_X9_join_19 l M18 ⟨hI, hW⟩ v5 (by omega) (by omega) v14 (by omega) (by omega) v17 (by omega) (by omega)) cs_X6_177 (T := TX9) (N := 18) (ci := 9) rfl gs_19 (by decide) (by decide) rfl rfl rfl (Nat.le_of_ble_eq_true rfl) dX6_readTouch_90 (fun M24 hI p25 => ?_)
      obtain ⟨hI, hW⟩ := hI
      have fp25 := p25
      have hF := hF.call fp25 (by decide)
      have tM24_18_1 : M24 18 1 = M18 18 1 := fp25.at (by decide)
      have tM24_18_4 : M24 18 4 = M18 18 4 := fp25.at (by decide)
      have tM24_18_5 : M24 18 5 = M18 18 5 := fp25.at (by decide)
      have tM24_18_6 : M24 18 6 = M18 18 6 := fp25.at (by decide)
      exact hret _ 93 _ ⟨hI, hW⟩ ⟨hF, (by omega)⟩ dX6_readTouch_93
  · refine z_iconst F dX6_readTouch_33 ?_
    refine z_goto (tgt := 50) F dX6_readTouch_34 (by decide +kernel) ?_
    refine z_istore_n F dX6_readTouch_50 rfl (by decide) (ls' := [(2, ii 0), (1, ii v5), (0, .ref (ad 18))]) rfl ?_
    refine z_aload_n F dX6_readTouch_51 rfl (q := 2) rfl ?_
    refine z_iconst F dX6_readTouch_52 ?_
    refine z_aload_n F dX6_readTouch_53 rfl (q := 2) rfl ?_
    refine rf_X6_12 F gs_18 rfl dX6_readTouch_54 ?_
    refine gf_X6_170 F hI gs_19 rfl bd_19_1 dX6_readTouch_57 (fun v26 ev26 av26 bv26 => ?_)
    have q27 : v4 = M6 19 1 := ev4.trans ((fp7.at (by decide)) : M6 19 1 = _).symm
    have zv26 : v4 = v26 := q27.trans ev26.symm
    subst zv26
    refine z_iconst F dX6_readTouch_60 ?_
    refine z_isub F dX6_readTouch_61 ?_
    refine z_iload_n F dX6_readTouch_62 rfl (q := 0) rfl ?_
    refine zv_i (rest := []) F (kp_X6_takeNumberBut_18 l M6 ⟨hI, hW⟩ 0 (by omega) (by omega) (v4 - 1) (by omega) (by omega) 0 (by omega) (by omega) (by omega)) cs_X6_97 (T := TX6) (N := 9) (ci := 6) rfl gs_18 (by decide) (by decide) rfl rfl rfl (Nat.le_of_ble_eq_true rfl) dX6_readTouch_63 (fun v28 M29 rv28 hI p30 => ?_)
    obtain ⟨hI, hW⟩ := hI
    obtain ⟨⟨av28, bv28⟩, fp30, xp30⟩ := p30
    have hF := hF.call fp30 (by decide)
    have hkv28 : -1 ≤ v28 ∧ v28 ≤ 9 := by omega
    refine z_istore_n F dX6_readTouch_66 rfl (by decide) (ls' := [(3, ii v28), (2, ii 0), (1, ii v5), (0, .ref (ad 18))]) rfl ?_
    refine z_aload_n F dX6_readTouch_67 rfl (q := 3) rfl ?_
    refine z_ldcS (j := 4) F dX6_readTouch_68 rfl rfl rfl ?_
    refine z_eq (st' := [.ref (ad 1004), .ref (ad 18)]) rfl rfl rfl ?_
    refine zv_i (rest := []) F (kp_X6_takeWord_18_1004 l M29 ⟨hI, hW⟩ (by omega)) cs_X6_144 (T := TX6) (N := 9) (ci := 6) rfl gs_18 (by decide) (by decide) rfl rfl rfl (Nat.le_of_ble_eq_true rfl) dX6_readTouch_70 (fun v31 M32 rv31 hI p33 => ?_)
    obtain ⟨hI, hW⟩ := hI
    obtain ⟨⟨av31, bv31⟩, fp33, xp33⟩ := p33
    have hF := hF.call fp33 (by decide)
    refine z_istore F dX6_readTouch_73 (by decide) (ls' := [(4, ii v31), (3, ii v28), (2, ii 0), (1, ii v5), (0, .ref (ad 18))]) rfl ?_
    refine z_aload_n F dX6_readTouch_75 rfl (q := 4) rfl ?_
    refine gf_X6_36 F hI gs_18 rfl bd_18_1 dX6_readTouch_76 (fun v34 ev34 av34 bv34 => ?_)
    refine z_if_ne (tgt := 93) F dX6_readTouch_79 (by decide +kernel) (by omega) (fun c35 => ?_) (fun c35 => ?_)
    · exact hret _ 93 _ ⟨hI, hW⟩ ⟨hF, (by omega)⟩ dX6_readTouch_93
    · refine z_aload_n F dX6_readTouch_82 rfl (q := 4) rfl ?_
      refine rf_X6_12 F gs_18 rfl dX6_readTouch_83 ?_
      refine z_iload_n F dX6_readTouch_86 rfl (q := 3) rfl ?_
      refine z_iload_n F dX6_readTouch_87 rfl (q := 1) rfl ?_
      refine z_iload F dX6_readTouch_88 (q := 0) rfl ?_
      have k36 : 0 ≤ v28 ∧ v28 ≤ 9 := by omega
      have k37 : 0 ≤ v5 ∧ v5 ≤ 9 := by omega
      refine zv_v (rest := []) F (k_X9_join_19 l M32 ⟨hI, hW⟩ v5 (by omega) (by omega) v28 (by omega) (by omega) v31 (by omega) (by omega)) cs_X6_177 (T := TX9) (N := 18) (ci := 9) rfl gs_19 (by decide) (by decide) rfl rfl rfl (Nat.le_of_ble_eq_true rfl) dX6_readTouch_90 (fun M38 hI p39 => ?_)
      obtain ⟨hI, hW⟩ := hI
      have fp39 := p39
      have hF := hF.call fp39 (by decide)
      have tM38_18_1 : M38 18 1 = M32 18 1 := fp39.at (by decide)
      have tM38_18_4 : M38 18 4 = M32 18 4 := fp39.at (by decide)
      have tM38_18_5 : M38 18 5 = M32 18 5 := fp39.at (by decide)
      have tM38_18_6 : M38 18 6 = M32 18 6 := fp39.at (by decide)
      exact hret _ 93 _ ⟨hI, hW⟩ ⟨hF, (by omega)⟩ dX6_readTouch_93
set_option maxHeartbeats 4000000 in
set_option maxRecDepth 4000 in
theorem kp_X6_readLine_18 (l : Launch) (M : Mem) (hJ : Iw M) (hp0 : M 18 6 ≤ M 18 5 ∧ M 18 5 ≤ M 18 4) : CV l yX6_readLine cX6_readLine 1 none 74 (fun ad => [.ref (ad 18)]) M (fun M' => Fr [18, 19, 20, 21, 23, 24, 25, 26, 27, 28, 29, 31, 32] M M' ∧ (M' 18 4 = M 18 4 ∧ M' 18 6 ≤ M' 18 5 ∧ M' 18 5 ≤ M' 18 4)) := by
  obtain ⟨hI, hW⟩ := hJ
  have hF : Fr [18, 19, 20, 21, 23, 24, 25, 26, 27, 28, 29, 31, 32] M M := Fr.rf
  refine en_v (by decide +kernel) (fun ad => by exact Nat.le_of_ble_eq_true rfl) (fun D cy ad A p e s m args below meth c Q F hret => ?_)
  refine z_eq (ls' := [(0, .ref (ad 18))]) rfl rfl rfl ?_
  refine z_aload_n F dX6_readLine_0 rfl (q := 0) rfl ?_
  refine z_ldcS (j := 3) F dX6_readLine_1 rfl rfl rfl ?_
  refine z_eq (st' := [.ref (ad 1003), .ref (ad 18)]) rfl rfl rfl ?_
  refine zv_i (rest := []) F (kp_X6_isWord_18_1003 l M ⟨hI, hW⟩ (by omega)) cs_X6_86 (T := TX6) (N := 9) (ci := 6) rfl gs_18 (by decide) (by decide) rfl rfl rfl (Nat.le_of_ble_eq_true rfl) dX6_readLine_3 (fun v1 M2 rv1 hI p3 => ?_)
  obtain ⟨hI, hW⟩ := hI
  obtain ⟨⟨av1, bv1⟩, rfl⟩ := p3
  refine z_if_eq (tgt := 16) F dX6_readLine_6 (by decide +kernel) (by omega) (fun c4 => ?_) (fun c4 => ?_)
  · refine z_aload_n F dX6_readLine_16 rfl (q := 0) rfl ?_
    refine z_ldcS (j := 5) F dX6_readLine_17 rfl rfl rfl ?_
    refine z_eq (st' := [.ref (ad 1005), .ref (ad 18)]) rfl rfl rfl ?_
    refine zv_i (rest := []) F (kp_X6_isWord_18_1005 l M ⟨hI, hW⟩ (by omega)) cs_X6_86 (T := TX6) (N := 9) (ci := 6) rfl gs_18 (by decide) (by decide) rfl rfl rfl (Nat.le_of_ble_eq_true rfl) dX6_readLine_19 (fun v5 M6 rv5 hI p7 => ?_)
    obtain ⟨hI, hW⟩ := hI
    obtain ⟨⟨av5, bv5⟩, rfl⟩ := p7
    refine z_if_eq (tgt := 32) F dX6_readLine_22 (by decide +kernel) (by omega) (fun c8 => ?_) (fun c8 => ?_)
    · refine z_aload_n F dX6_readLine_32 rfl (q := 0) rfl ?_
      refine z_ldcS (j := 10) F dX6_readLine_33 rfl rfl rfl ?_
      refine z_eq (st' := [.ref (ad 1010), .ref (ad 18)]) rfl rfl rfl ?_
      refine zv_i (rest := []) F (kp_X6_isWord_18_1010 l M ⟨hI, hW⟩ (by omega)) cs_X6_86 (T := TX6) (N := 9) (ci := 6) rfl gs_18 (by decide) (by decide) rfl rfl rfl (Nat.le_of_ble_eq_true rfl) dX6_readLine_35 (fun v9 M10 rv9 hI p11 => ?_)
      obtain ⟨hI, hW⟩ := hI
      obtain ⟨⟨av9, bv9⟩, rfl⟩ := p11
      refine z_if_eq (tgt := 48) F dX6_readLine_38 (by decide +kernel) (by omega) (fun c12 => ?_) (fun c12 => ?_)
      · refine z_aload_n F dX6_readLine_48 rfl (q := 0) rfl ?_
        refine z_ldcS (j := 13) F dX6_readLine_49 rfl rfl rfl ?_
        refine z_eq (st' := [.ref (ad 1013), .ref (ad 18)]) rfl rfl rfl ?_
        refine zv_i (rest := []) F (kp_X6_takeWord_18_1013 l M ⟨hI, hW⟩ (by omega)) cs_X6_144 (T := TX6) (N := 9) (ci := 6) rfl gs_18 (by decide) (by decide) rfl rfl rfl (Nat.le_of_ble_eq_true rfl) dX6_readLine_51 (fun v13 M14 rv13 hI p15 => ?_)
        obtain ⟨hI, hW⟩ := hI
        obtain ⟨⟨av13, bv13⟩, fp15, xp15⟩ := p15
        have hF := hF.call fp15 (by decide)
        refine z_if_eq (tgt := 64) F dX6_readLine_54 (by decide +kernel) (by omega) (fun c16 => ?_) (fun c16 => ?_)
        · refine z_aload_n F dX6_readLine_64 rfl (q := 0) rfl ?_
          refine z_ldcS (j := 18) F dX6_readLine_65 rfl rfl rfl ?_
          refine z_eq (st' := [.ref (ad 1018), .ref (ad 18)]) rfl rfl rfl ?_
          refine zv_i (rest := []) F (kp_X6_takeWord_18_1018 l M14 ⟨hI, hW⟩ (by omega)) cs_X6_144 (T := TX6) (N := 9) (ci := 6) rfl gs_18 (by decide) (by decide) rfl rfl rfl (Nat.le_of_ble_eq_true rfl) dX6_readLine_67 (fun v17 M18 rv17 hI p19 => ?_)
          obtain ⟨hI, hW⟩ := hI
          obtain ⟨⟨av17, bv17⟩, fp19, xp19⟩ := p19
          have hF := hF.call fp19 (by decide)
          refine z_if_eq (tgt := 91) F dX6_readLine_70 (by decide +kernel) (by omega) (fun c20 => ?_) (fun c20 => ?_)
          · refine z_aload_n F dX6_readLine_91 rfl (q := 0) rfl ?_
            refine zv_v (rest := []) F (kp_X6_refuse_18 l M18 ⟨hI, hW⟩) cs_X6_90 (T := TX6) (N := 9) (ci := 6) rfl gs_18 (by decide) (by decide) rfl rfl rfl (Nat.le_of_ble_eq_true rfl) dX6_readLine_92 (fun M21 hI p22 => ?_)
            obtain ⟨hI, hW⟩ := hI
            obtain ⟨fp22, xp22⟩ := p22
            have hF := hF.call fp22 (by decide)
            refine z_aload_n F dX6_readLine_95 rfl (q := 0) rfl ?_
            refine zv_v (rest := []) F (kp_X6_endLine_18 l M21 ⟨hI, hW⟩ (by omega)) cs_X6_117 (T := TX6) (N := 9) (ci := 6) rfl gs_18 (by decide) (by decide) rfl rfl rfl (Nat.le_of_ble_eq_true rfl) dX6_readLine_96 (fun M23 hI p24 => ?_)
            obtain ⟨hI, hW⟩ := hI
            obtain ⟨fp24, xp24⟩ := p24
            have hF := hF.call fp24 (by decide)
            exact hret _ 99 _ ⟨hI, hW⟩ ⟨hF, (by omega)⟩ dX6_readLine_99
          · refine z_aload_n F dX6_readLine_73 rfl (q := 0) rfl ?_
            refine rf_X6_12 F gs_18 rfl dX6_readLine_74 ?_
            refine rf_X6_152 F gs_19 rfl dX6_readLine_77 ?_
            refine zv_v (rest := []) F (k_X2_strike_31 l M18 ⟨hI, hW⟩) cs_X6_155 (T := TX2) (N := 5) (ci := 2) rfl gs_31 (by decide) (by decide) rfl rfl rfl (Nat.le_of_ble_eq_true rfl) dX6_readLine_80 (fun M25 hI p26 => ?_)
            obtain ⟨hI, hW⟩ := hI
            have fp26 := p26
            have hF := hF.call fp26 (by decide)
            have tM25_18_1 : M25 18 1 = M18 18 1 := fp26.at (by decide)
            have tM25_18_4 : M25 18 4 = M18 18 4 := fp26.at (by decide)
            have tM25_18_5 : M25 18 5 = M18 18 5 := fp26.at (by decide)
            have tM25_18_6 : M25 18 6 = M18 18 6 := fp26.at (by decide)
            refine z_aload_n F dX6_readLine_83 rfl (q := 0) rfl ?_
            refine z_iconst F dX6_readLine_84 ?_
            refine zv_v (rest := []) F ((RdX_all l 61).1 M25 ⟨hI, hW⟩ 0 (by omega) (by omega) (by omega) (by omega)) cs_X6_160 (T := TX6) (N := 9) (ci := 6) rfl gs_18 (by decide) (by decide) rfl rfl rfl (Nat.le_of_ble_eq_true rfl) dX6_readLine_85 (fun M27 hI p28 => ?_)
            obtain ⟨hI, hW⟩ := hI
            obtain ⟨fp28, xp28⟩ := p28
            have hF := hF.call fp28 (by decide)
            refine z_goto (tgt := 95) F dX6_readLine_88 (by decide +kernel) ?_
            refine z_aload_n F dX6_readLine_95 rfl (q := 0) rfl ?_
            refine zv_v (rest := []) F (kp_X6_endLine_18 l M27 ⟨hI, hW⟩ (by omega)) cs_X6_117 (T := TX6) (N := 9) (ci := 6) rfl gs_18 (by decide) (by decide) rfl rfl rfl (Nat.le_of_ble_eq_true rfl) dX6_readLine_96 (fun M29 hI p30 => ?_)
            obtain ⟨hI, hW⟩ := hI
            obtain ⟨fp30, xp30⟩ := p30
            have hF := hF.call fp30 (by decide)
            exact hret _ 99 _ ⟨hI, hW⟩ ⟨hF, (by omega)⟩ dX6_readLine_99
        · refine z_aload_n F dX6_readLine_57 rfl (q := 0) rfl ?_
          refine zv_v (rest := []) F (kp_X6_readZero_18 l M14 ⟨hI, hW⟩ (by omega)) cs_X6_147 (T := TX6) (N := 9) (ci := 6) rfl gs_18 (by decide) (by decide) rfl rfl rfl (Nat.le_of_ble_eq_true rfl) dX6_readLine_58 (fun M31 hI p32 => ?_)
          obtain ⟨hI, hW⟩ := hI
          obtain ⟨fp32, xp32⟩ := p32
          have hF := hF.call fp32 (by decide)
          refine z_goto (tgt := 95) F dX6_readLine_61 (by decide +kernel) ?_
          refine z_aload_n F dX6_readLine_95 rfl (q := 0) rfl ?_
          refine zv_v (rest := []) F (kp_X6_endLine_18 l M31 ⟨hI, hW⟩ (by omega)) cs_X6_117 (T := TX6) (N := 9) (ci := 6) rfl gs_18 (by decide) (by decide) rfl rfl rfl (Nat.le_of_ble_eq_true rfl) dX6_readLine_96 (fun M33 hI p34 => ?_)
          obtain ⟨hI, hW⟩ := hI
          obtain ⟨fp34, xp34⟩ := p34
          have hF := hF.call fp34 (by decide)
          exact hret _ 99 _ ⟨hI, hW⟩ ⟨hF, (by omega)⟩ dX6_readLine_99
      · refine z_aload_n F dX6_readLine_41 rfl (q := 0) rfl ?_
        refine zv_v (rest := []) F (kp_X6_readEvent_18 l M ⟨hI, hW⟩ (by omega)) cs_X6_139 (T := TX6) (N := 9) (ci := 6) rfl gs_18 (by decide) (by decide) rfl rfl rfl (Nat.le_of_ble_eq_true rfl) dX6_readLine_42 (fun M35 hI p36 => ?_)
        obtain ⟨hI, hW⟩ := hI
        obtain ⟨fp36, xp36⟩ := p36
        have hF := hF.call fp36 (by decide)
        refine z_goto (tgt := 95) F dX6_readLine_45 (by decide +kernel) ?_
        refine z_aload_n F dX6_readLine_95 rfl (q := 0) rfl ?_
        refine zv_v (rest := []) F (kp_X6_endLine_18 l M35 ⟨hI, hW⟩ (by omega)) cs_X6_117 (T := TX6) (N := 9) (ci := 6) rfl gs_18 (by decide) (by decide) rfl rfl rfl (Nat.le_of_ble_eq_true rfl) dX6_readLine_96 (fun M37 hI p38 => ?_)
        obtain ⟨hI, hW⟩ := hI
        obtain ⟨fp38, xp38⟩ := p38
        have hF := hF.call fp38 (by decide)
        exact hret _ 99 _ ⟨hI, hW⟩ ⟨hF, (by omega)⟩ dX6_readLine_99
    · refine z_aload_n F dX6_readLine_25 rfl (q := 0) rfl ?_
      refine zv_v (rest := []) F (kp_X6_readThing_18 l M ⟨hI, hW⟩ (by omega)) cs_X6_134 (T := TX6) (N := 9) (ci := 6) rfl gs_18 (by decide) (by decide) rfl rfl rfl (Nat.le_of_ble_eq_true rfl) dX6_readLine_26 (fun M39 hI p40 => ?_)
      obtain ⟨hI, hW⟩ := hI
      obtain ⟨fp40, xp40⟩ := p40
      have hF := hF.call fp40 (by decide)
      refine z_goto (tgt := 95) F dX6_readLine_29 (by decide +kernel) ?_
      refine z_aload_n F dX6_readLine_95 rfl (q := 0) rfl ?_
      refine zv_v (rest := []) F (kp_X6_endLine_18 l M39 ⟨hI, hW⟩ (by omega)) cs_X6_117 (T := TX6) (N := 9) (ci := 6) rfl gs_18 (by decide) (by decide) rfl rfl rfl (Nat.le_of_ble_eq_true rfl) dX6_readLine_96 (fun M41 hI p42 => ?_)
      obtain ⟨hI, hW⟩ := hI
      obtain ⟨fp42, xp42⟩ := p42
      have hF := hF.call fp42 (by decide)
      exact hret _ 99 _ ⟨hI, hW⟩ ⟨hF, (by omega)⟩ dX6_readLine_99
  · refine z_aload_n F dX6_readLine_9 rfl (q := 0) rfl ?_
    refine zv_v (rest := []) F (kp_X6_readTouch_18 l M ⟨hI, hW⟩ (by omega)) cs_X6_129 (T := TX6) (N := 9) (ci := 6) rfl gs_18 (by decide) (by decide) rfl rfl rfl (Nat.le_of_ble_eq_true rfl) dX6_readLine_10 (fun M43 hI p44 => ?_)
    obtain ⟨hI, hW⟩ := hI
    obtain ⟨fp44, xp44⟩ := p44
    have hF := hF.call fp44 (by decide)
    refine z_goto (tgt := 95) F dX6_readLine_13 (by decide +kernel) ?_
    refine z_aload_n F dX6_readLine_95 rfl (q := 0) rfl ?_
    refine zv_v (rest := []) F (kp_X6_endLine_18 l M43 ⟨hI, hW⟩ (by omega)) cs_X6_117 (T := TX6) (N := 9) (ci := 6) rfl gs_18 (by decide) (by decide) rfl rfl rfl (Nat.le_of_ble_eq_true rfl) dX6_readLine_96 (fun M45 hI p46 => ?_)
    obtain ⟨hI, hW⟩ := hI
    obtain ⟨fp46, xp46⟩ := p46
    have hF := hF.call fp46 (by decide)
    exact hret _ 99 _ ⟨hI, hW⟩ ⟨hF, (by omega)⟩ dX6_readLine_99
set_option maxRecDepth 4000 in
theorem k_X9_clear_19 (l : Launch) (M : Mem) (hJ : Iw M) : CV l yX9_clear cX9_clear 1 none 2 (fun ad => [.ref (ad 19)]) M (fun M' => Fr [19, 31] M M') := by
  obtain ⟨hI, hW⟩ := hJ
  have hF : Fr [19, 31] M M := Fr.rf
  refine en_v (by decide +kernel) (fun ad => by exact Nat.le_of_ble_eq_true rfl) (fun D cy ad A p e s m args below meth c Q F hret => ?_)
  refine z_eq (ls' := [(0, .ref (ad 19))]) rfl rfl rfl ?_
  refine z_aload_n F dX9_clear_0 rfl (q := 0) rfl ?_
  refine z_iconst F dX9_clear_1 ?_
  refine pf_X9_52 F hI gs_19 rfl bd_19_0 rfl rfl dX9_clear_2 (by omega) (by omega) (fun M2 hI sf1 f1 => ?_)
  have hF := hF.wr f1 (by decide) (by decide)
  have hW : WFk M2 := hW.site f1 (by decide)
  refine z_aload_n F dX9_clear_5 rfl (q := 0) rfl ?_
  refine z_iconst F dX9_clear_6 ?_
  refine pf_X9_56 F hI gs_19 rfl bd_19_1 rfl rfl dX9_clear_7 (by omega) (by omega) (fun M4 hI sf3 f3 => ?_)
  have hF := hF.wr f3 (by decide) (by decide)
  have hW : WFk M4 := hW.site f3 (by decide)
  refine z_aload_n F dX9_clear_10 rfl (q := 0) rfl ?_
  refine z_iconst F dX9_clear_11 ?_
  refine pf_X9_59 F hI gs_19 rfl bd_19_2 rfl rfl dX9_clear_12 (by omega) (by omega) (fun M6 hI sf5 f5 => ?_)
  have hF := hF.wr f5 (by decide) (by decide)
  have hW : WFk M6 := hW.site f5 (by decide)
  refine z_aload_n F dX9_clear_15 rfl (q := 0) rfl ?_
  refine z_iconst F dX9_clear_16 ?_
  refine pf_X9_62 F hI gs_19 rfl bd_19_3 rfl rfl dX9_clear_17 (by omega) (by omega) (fun M8 hI sf7 f7 => ?_)
  have hF := hF.wr f7 (by decide) (by decide)
  have hW : WFk M8 := hW.site f7 (by decide)
  refine z_aload_n F dX9_clear_20 rfl (q := 0) rfl ?_
  refine z_iconst F dX9_clear_21 ?_
  refine pf_X9_65 F hI gs_19 rfl bd_19_4 rfl rfl dX9_clear_22 (by omega) (by omega) (fun M10 hI sf9 f9 => ?_)
  have hF := hF.wr f9 (by decide) (by decide)
  have hW : WFk M10 := hW.site f9 (by decide)
  refine z_aload_n F dX9_clear_25 rfl (q := 0) rfl ?_
  refine z_iconst F dX9_clear_26 ?_
  refine pf_X9_68 F hI gs_19 rfl bd_19_12 rfl rfl dX9_clear_27 (by omega) (by omega) (fun M12 hI sf11 f11 => ?_)
  have hF := hF.wr f11 (by decide) (by decide)
  have hW : WFk M12 := hW.site f11 (by decide)
  refine z_aload_n F dX9_clear_30 rfl (q := 0) rfl ?_
  refine rf_X9_48 F gs_19 rfl dX9_clear_31 ?_
  refine zv_v (rest := []) F (k_X2_strike_31 l M12 ⟨hI, hW⟩) cs_X9_71 (T := TX2) (N := 5) (ci := 2) rfl gs_31 (by decide) (by decide) rfl rfl rfl (Nat.le_of_ble_eq_true rfl) dX9_clear_34 (fun M13 hI p14 => ?_)
  obtain ⟨hI, hW⟩ := hI
  have fp14 := p14
  have hF := hF.call fp14 (by decide)
  refine z_aload_n F dX9_clear_37 rfl (q := 0) rfl ?_
  refine rf_X9_48 F gs_19 rfl dX9_clear_38 ?_
  refine z_iconst F dX9_clear_41 ?_
  refine pf_X9_74 F hI gs_31 rfl bd_31_2 rfl rfl dX9_clear_42 (by omega) (by omega) (fun M16 hI sf15 f15 => ?_)
  have hF := hF.wr f15 (by decide) (by decide)
  have hW : WFk M16 := hW.site f15 (by decide)
  exact hret _ 45 _ ⟨hI, hW⟩ hF dX9_clear_45
set_option maxHeartbeats 4000000 in
set_option maxRecDepth 4000 in
theorem kp_X6_isWord_18_1002 (l : Launch) (M : Mem) (hJ : Iw M) (hp0 : M 18 6 ≤ M 18 5 ∧ M 18 5 ≤ M 18 4) : CI l yX6_isWord cX6_isWord 3 (some .boolean) 5 (fun ad => [.ref (ad 18), .ref (ad 1002)]) M (fun z M' => (0 ≤ z ∧ z ≤ 1) ∧ M = M') := by
  obtain ⟨hI, hW⟩ := hJ
  refine en_z (by decide +kernel) (fun ad => by exact Nat.le_of_ble_eq_true rfl) (fun D cy ad A p e s m args below meth c Q F hret => ?_)
  refine z_eq (ls' := [(0, .ref (ad 18)), (1, .ref (ad 1002))]) rfl rfl rfl ?_
  obtain ⟨u1, eu1⟩ : ∃ v : Int, v = M 18 1 := ⟨_, rfl⟩
  have ku1 : (-2147483648) ≤ u1 ∧ u1 ≤ 2147483647 := by have := hI.at (show Bd 18 1 = (-2147483648, 2147483647) from rfl); omega
  obtain ⟨u2, eu2⟩ : ∃ v : Int, v = M 18 4 := ⟨_, rfl⟩
  have ku2 : 0 ≤ u2 ∧ u2 ≤ 900 := by have := hI.at (show Bd 18 4 = (0, 900) from rfl); omega
  obtain ⟨u3, eu3⟩ : ∃ v : Int, v = M 18 5 := ⟨_, rfl⟩
  have ku3 : 0 ≤ u3 ∧ u3 ≤ 900 := by have := hI.at (show Bd 18 5 = (0, 900) from rfl); omega
  obtain ⟨u4, eu4⟩ : ∃ v : Int, v = M 18 6 := ⟨_, rfl⟩
  have ku4 : 0 ≤ u4 ∧ u4 ≤ 900 := by have := hI.at (show Bd 18 6 = (0, 900) from rfl); omega
  refine z_aload_n F dX6_isWord_0 rfl (q := 0) rfl ?_
  refine gf_X6_36 F hI gs_18 rfl bd_18_1 dX6_isWord_1 (fun v5 ev5 av5 bv5 => ?_)
  have zv5 : u1 = v5 := eu1.trans ev5.symm
  subst zv5
  refine z_if_ne (tgt := 31) F dX6_isWord_4 (by decide +kernel) (by omega) (fun c6 => ?_) (fun c6 => ?_)
  · refine z_iconst F dX6_isWord_31 ?_
    exact hret _ _ 32 _ ⟨by omega, by omega⟩ ⟨hI, hW⟩ ⟨⟨by omega, by omega⟩, rfl⟩ dX6_isWord_32
  · refine z_aload_n F dX6_isWord_7 rfl (q := 0) rfl ?_
    refine gf_X6_48 F hI gs_18 rfl bd_18_7 dX6_isWord_8 (fun v7 ev7 av7 bv7 => ?_)
    refine z_iconst F dX6_isWord_11 ?_
    refine z_icmp_ne (tgt := 31) F dX6_isWord_12 (by decide +kernel) (by omega) (by omega) (fun c8 => ?_) (fun c8 => ?_)
    · refine z_iconst F dX6_isWord_31 ?_
      exact hret _ _ 32 _ ⟨by omega, by omega⟩ ⟨hI, hW⟩ ⟨⟨by omega, by omega⟩, rfl⟩ dX6_isWord_32
    · refine z_aload_n F dX6_isWord_15 rfl (q := 0) rfl ?_
      refine gf_X6_33 F hI gs_18 rfl bd_18_5 dX6_isWord_16 (fun v9 ev9 av9 bv9 => ?_)
      have zv9 : u3 = v9 := eu3.trans ev9.symm
      subst zv9
      refine z_aload_n F dX6_isWord_19 rfl (q := 0) rfl ?_
      refine gf_X6_57 F hI gs_18 rfl bd_18_6 dX6_isWord_20 (fun v10 ev10 av10 bv10 => ?_)
      have zv10 : u4 = v10 := eu4.trans ev10.symm
      subst zv10
      refine z_isub F dX6_isWord_23 ?_
      refine z_aload_n F dX6_isWord_24 rfl (q := 1) rfl ?_
      refine zvs_i (i := 2) (rest := [ii (u3 - u4)]) F (kS_len l M ⟨hI, hW⟩ 2 (by decide)) cs_X6_75 (by decide) (by decide) (by decide) rfl rfl rfl (Nat.le_of_ble_eq_true rfl) dX6_isWord_25 (fun v11 M9 rv11 hI9 pv11 => ?_)
      obtain ⟨ev11, rfl⟩ := pv11
      obtain rfl : v11 = 6 := ev11.trans (show ((sbyt.getD 2 []).length : Int) = 6 from by decide)
      clear hI9
      refine z_icmp_eq (tgt := 33) F dX6_isWord_28 (by decide +kernel) (by omega) (by omega) (fun c12 => ?_) (fun c12 => ?_)
      · refine z_iconst F dX6_isWord_33 ?_
        refine z_istore_n F dX6_isWord_34 rfl (by decide) (ls' := [(2, ii 0), (0, .ref (ad 18)), (1, .ref (ad 1002))]) rfl ?_
        refine z_loc [1, 2, 0] (ls' := [(0, .ref (ad 18)), (1, .ref (ad 1002)), (2, ii 0)]) rfl ?_
        suffices key35 : ∀ (n : Nat) (y14 : Int), 0 ≤ y14 → y14 ≤ 6 → 6 - y14 < (n : Int) → Z D cy ad p l e (RMh 5) s m args below meth c A 3 0 0 Q 35 [(0, .ref (ad 18)), (1, .ref (ad 1002)), (2, ii y14)] [] M from key35 7 0 (by omega) (by omega) (by omega)
        intro n35
        induction n35 with
        | zero => intro y14 ay14 by14 hn35; exfalso; omega
        | succ n35 ih35 =>
          intro y14 ay14 by14 hn35
          refine z_iload_n F dX6_isWord_35 rfl (q := 2) rfl ?_
          refine z_aload_n F dX6_isWord_36 rfl (q := 1) rfl ?_
          refine zvs_i (i := 2) (rest := [ii y14]) F (kS_len l M ⟨hI, hW⟩ 2 (by decide)) cs_X6_75 (by decide) (by decide) (by decide) rfl rfl rfl (Nat.le_of_ble_eq_true rfl) dX6_isWord_37 (fun v15 M9 rv15 hI9 pv15 => ?_)
          obtain ⟨ev15, rfl⟩ := pv15
          obtain rfl : v15 = 6 := ev15.trans (show ((sbyt.getD 2 []).length : Int) = 6 from by decide)
          clear hI9
          refine z_icmp_ge (tgt := 70) F dX6_isWord_40 (by decide +kernel) (by omega) (by omega) (fun c16 => ?_) (fun c16 => ?_)
          · refine z_iconst F dX6_isWord_70 ?_
            exact hret _ _ 71 _ ⟨by omega, by omega⟩ ⟨hI, hW⟩ ⟨⟨by omega, by omega⟩, rfl⟩ dX6_isWord_71
          · refine z_aload_n F dX6_isWord_43 rfl (q := 0) rfl ?_
            refine rf_X6_22 F gs_18 rfl dX6_isWord_44 ?_
            refine z_aload_n F dX6_isWord_47 rfl (q := 0) rfl ?_
            refine gf_X6_57 F hI gs_18 rfl bd_18_6 dX6_isWord_48 (fun v17 ev17 av17 bv17 => ?_)
            have zv17 : u4 = v17 := eu4.trans ev17.symm
            subst zv17
            refine z_iload_n F dX6_isWord_51 rfl (q := 2) rfl ?_
            refine z_iadd F dX6_isWord_52 ?_
            have k18 : 0 ≤ (u4 + y14) ∧ (u4 + y14) ≤ 899 := by omega
            refine z_bald F hI gs_1 (by omega) (by omega) (by decide) bd_1 dX6_isWord_53 (fun v19 (ev19 : v19 = M 1 _) av19 bv19 => ?_)
            refine z_aload_n F dX6_isWord_54 rfl (q := 1) rfl ?_
            refine z_iload_n F dX6_isWord_55 rfl (q := 2) rfl ?_
            refine zvs_i (i := 2) (rest := [ii v19]) F (kS_chr l M ⟨hI, hW⟩ 2 (by decide) y14 (by omega) (show y14 < ((sbyt.getD 2 []).length : Int) from by rw [show ((sbyt.getD 2 []).length : Int) = 6 from by decide]; omega)) cs_X6_78 (by decide) (by decide) (by decide) rfl rfl rfl (Nat.le_of_ble_eq_true rfl) dX6_isWord_56 (fun v20 M9 rv20 hI9 pv20 => ?_)
            obtain ⟨⟨av20, bv20⟩, rfl⟩ := pv20
            clear hI9
            refine z_icmp_eq (tgt := 64) F dX6_isWord_59 (by decide +kernel) (by omega) (by omega) (fun c21 => ?_) (fun c21 => ?_)
            · refine z_iincN F dX6_isWord_64 (q := 2) rfl (by decide) (fun v22 ev22 => ?_)
              refine z_eq (ls' := [(2, ii v22), (0, .ref (ad 18)), (1, .ref (ad 1002))]) rfl rfl rfl ?_
              refine z_goto (tgt := 35) F dX6_isWord_67 (by decide +kernel) ?_
              refine z_loc [1, 2, 0] (ls' := [(0, .ref (ad 18)), (1, .ref (ad 1002)), (2, ii v22)]) rfl ?_
              exact ih35 v22 (by omega) (by omega) (by omega)
            · refine z_iconst F dX6_isWord_62 ?_
              exact hret _ _ 63 _ ⟨by omega, by omega⟩ ⟨hI, hW⟩ ⟨⟨by omega, by omega⟩, rfl⟩ dX6_isWord_63
      · refine z_iconst F dX6_isWord_31 ?_
        exact hret _ _ 32 _ ⟨by omega, by omega⟩ ⟨hI, hW⟩ ⟨⟨by omega, by omega⟩, rfl⟩ dX6_isWord_32
set_option maxHeartbeats 4000000 in
set_option maxRecDepth 4000 in
theorem kp_X6_needWord_18_1002 (l : Launch) (M : Mem) (hJ : Iw M) (hp0 : M 18 6 ≤ M 18 5 ∧ M 18 5 ≤ M 18 4) : CV l yX6_needWord cX6_needWord 2 none 7 (fun ad => [.ref (ad 18), .ref (ad 1002)]) M (fun M' => Fr [18] M M' ∧ (M' 18 4 = M 18 4 ∧ M' 18 6 ≤ M' 18 5 ∧ M' 18 5 ≤ M' 18 4 ∧ (M' 18 1 = 0 → M 18 1 = 0))) := by
  obtain ⟨hI, hW⟩ := hJ
  have hF : Fr [18] M M := Fr.rf
  refine en_v (by decide +kernel) (fun ad => by exact Nat.le_of_ble_eq_true rfl) (fun D cy ad A p e s m args below meth c Q F hret => ?_)
  refine z_eq (ls' := [(0, .ref (ad 18)), (1, .ref (ad 1002))]) rfl rfl rfl ?_
  refine z_aload_n F dX6_needWord_0 rfl (q := 0) rfl ?_
  refine z_aload_n F dX6_needWord_1 rfl (q := 1) rfl ?_
  refine zv_i (rest := []) F (kp_X6_isWord_18_1002 l M ⟨hI, hW⟩ (by omega)) cs_X6_86 (T := TX6) (N := 9) (ci := 6) rfl gs_18 (by decide) (by decide) rfl rfl rfl (Nat.le_of_ble_eq_true rfl) dX6_needWord_2 (fun v1 M2 rv1 hI p3 => ?_)
  obtain ⟨hI, hW⟩ := hI
  obtain ⟨⟨av1, bv1⟩, rfl⟩ := p3
  refine z_if_eq (tgt := 15) F dX6_needWord_5 (by decide +kernel) (by omega) (fun c4 => ?_) (fun c4 => ?_)
  · refine z_aload_n F dX6_needWord_15 rfl (q := 0) rfl ?_
    refine zv_v (rest := []) F (kp_X6_refuse_18 l M ⟨hI, hW⟩) cs_X6_90 (T := TX6) (N := 9) (ci := 6) rfl gs_18 (by decide) (by decide) rfl rfl rfl (Nat.le_of_ble_eq_true rfl) dX6_needWord_16 (fun M5 hI p6 => ?_)
    obtain ⟨hI, hW⟩ := hI
    obtain ⟨fp6, xp6⟩ := p6
    have hF := hF.call fp6 (by decide)
    exact hret _ 19 _ ⟨hI, hW⟩ ⟨hF, (by omega)⟩ dX6_needWord_19
  · refine z_aload_n F dX6_needWord_8 rfl (q := 0) rfl ?_
    refine zv_v (rest := []) F (kp_X6_advance_18 l M ⟨hI, hW⟩ (by omega)) cs_X6_42 (T := TX6) (N := 9) (ci := 6) rfl gs_18 (by decide) (by decide) rfl rfl rfl (Nat.le_of_ble_eq_true rfl) dX6_needWord_9 (fun M7 hI p8 => ?_)
    obtain ⟨hI, hW⟩ := hI
    obtain ⟨fp8, xp8⟩ := p8
    have hF := hF.call fp8 (by decide)
    refine z_goto (tgt := 19) F dX6_needWord_12 (by decide +kernel) ?_
    exact hret _ 19 _ ⟨hI, hW⟩ ⟨hF, (by omega)⟩ dX6_needWord_19
set_option maxHeartbeats 4000000 in
set_option maxRecDepth 4000 in
theorem kp_X9_open_19 (l : Launch) (M : Mem) (hJ : Iw M) (x0 : Int) (hx0a : (-1) ≤ x0) (hx0b : x0 ≤ 10) : CV l yX9_open cX9_open 3 none 2 (fun ad => [.ref (ad 19), ii x0]) M (fun M' => Fr [19, 20, 21] M M') := by
  obtain ⟨hI, hW⟩ := hJ
  have hF : Fr [19, 20, 21] M M := Fr.rf
  refine en_v (by decide +kernel) (fun ad => by exact Nat.le_of_ble_eq_true rfl) (fun D cy ad A p e s m args below meth c Q F hret => ?_)
  refine z_eq (ls' := [(0, .ref (ad 19)), (1, ii x0)]) rfl rfl rfl ?_
  refine z_aload_n F dX9_open_0 rfl (q := 0) rfl ?_
  refine z_iload_n F dX9_open_1 rfl (q := 1) rfl ?_
  refine z_iconst F dX9_open_2 ?_
  refine z_bipush F dX9_open_3 (by decide +kernel) ?_
  refine zn_i (rest := [.ref (ad 19)]) F (k_X11_keptWithin l M ⟨hI, hW⟩ x0 (by omega) (by omega) 0 (by omega) (by omega) 10 (by omega) (by omega)) cs_X9_101 (by decide) (by decide) rfl rfl rfl (Nat.le_of_ble_eq_true rfl) dX9_open_5 (fun v1 M2 rv1 hI p3 => ?_)
  obtain ⟨hI, hW⟩ := hI
  obtain ⟨⟨av1, bv1⟩, rfl, xp3⟩ := p3
  have hkv1 : 0 ≤ v1 ∧ v1 ≤ 10 := by omega
  refine pf_X9_56 F hI gs_19 rfl bd_19_1 rfl rfl dX9_open_8 (by omega) (by omega) (fun M5 hI sf4 f4 => ?_)
  have hF := hF.wr f4 (by decide) (by decide)
  have hW : WFk M5 := hW.site f4 (by decide)
  refine z_iconst F dX9_open_11 ?_
  refine z_istore_n F dX9_open_12 rfl (by decide) (ls' := [(2, ii 0), (0, .ref (ad 19)), (1, ii x0)]) rfl ?_
  refine z_loc [1, 0] (ls' := [(0, .ref (ad 19)), (2, ii 0)]) rfl ?_
  suffices key13 : ∀ (n : Nat) (y7 : Int) (M6 : Mem), Inv M6 → WFk M6 → Fr [19, 20, 21] M M6 → 0 ≤ y7 → y7 ≤ 10 → 10 - y7 < (n : Int) → Z D cy ad p l e (RMh 2) s m args below meth c A 3 0 0 Q 13 [(0, .ref (ad 19)), (2, ii y7)] [] M6 from key13 11 0 M5 hI hW hF (by omega) (by omega) (by omega)
  intro n13
  induction n13 with
  | zero => intro y7 M6 hI hW hF ay7 by7 hn13; exfalso; omega
  | succ n13 ih13 =>
    intro y7 M6 hI hW hF ay7 by7 hn13
    refine z_iload_n F dX9_open_13 rfl (q := 1) rfl ?_
    refine z_aload_n F dX9_open_14 rfl (q := 0) rfl ?_
    refine gf_X9_56 F hI gs_19 rfl bd_19_1 dX9_open_15 (fun v8 ev8 av8 bv8 => ?_)
    refine z_icmp_ge (tgt := 41) F dX9_open_18 (by decide +kernel) (by omega) (by omega) (fun c9 => ?_) (fun c9 => ?_)
    · exact hret _ 41 _ ⟨hI, hW⟩ hF dX9_open_41
    · refine z_aload_n F dX9_open_21 rfl (q := 0) rfl ?_
      refine rf_X9_9 F gs_19 rfl dX9_open_22 ?_
      refine z_iload_n F dX9_open_25 rfl (q := 1) rfl ?_
      refine z_iconst F dX9_open_26 ?_
      refine z_iast F hI gs_20 (by omega) (by omega) (by decide) bd_20 dX9_open_27 (by omega) (by omega) (fun M11 hI sf10 f10 => ?_)
      have hF := hF.wr f10 (by decide) (by decide)
      have hW : WFk M11 := hW.site f10 (by decide)
      refine z_aload_n F dX9_open_28 rfl (q := 0) rfl ?_
      refine rf_X9_15 F gs_19 rfl dX9_open_29 ?_
      refine z_iload_n F dX9_open_32 rfl (q := 1) rfl ?_
      refine z_iconst F dX9_open_33 ?_
      refine z_iast F hI gs_21 (by omega) (by omega) (by decide) bd_21 dX9_open_34 (by omega) (by omega) (fun M13 hI sf12 f12 => ?_)
      have hF := hF.wr f12 (by decide) (by decide)
      have hW : WFk M13 := hW.site f12 (by decide)
      refine z_iincN F dX9_open_35 (q := 1) rfl (by decide) (fun v14 ev14 => ?_)
      refine z_eq (ls' := [(2, ii v14), (0, .ref (ad 19))]) rfl rfl rfl ?_
      refine z_goto (tgt := 13) F dX9_open_38 (by decide +kernel) ?_
      refine z_loc [1, 0] (ls' := [(0, .ref (ad 19)), (2, ii v14)]) rfl ?_
      exact ih13 v14 M13 hI hW hF (by omega) (by omega) (by omega)
set_option maxHeartbeats 4000000 in
set_option maxRecDepth 4000 in
theorem kp_X6_readPlaces_18 (l : Launch) (M : Mem) (hJ : Iw M) (hp0 : M 18 6 ≤ M 18 5 ∧ M 18 5 ≤ M 18 4) : CV l yX6_readPlaces cX6_readPlaces 2 none 9 (fun ad => [.ref (ad 18)]) M (fun M' => Fr [18, 19, 20, 21] M M' ∧ (M' 18 4 = M 18 4 ∧ M' 18 6 ≤ M' 18 5 ∧ M' 18 5 ≤ M' 18 4)) := by
  obtain ⟨hI, hW⟩ := hJ
  have hF : Fr [18, 19, 20, 21] M M := Fr.rf
  refine en_v (by decide +kernel) (fun ad => by exact Nat.le_of_ble_eq_true rfl) (fun D cy ad A p e s m args below meth c Q F hret => ?_)
  refine z_eq (ls' := [(0, .ref (ad 18))]) rfl rfl rfl ?_
  refine z_aload_n F dX6_readPlaces_0 rfl (q := 0) rfl ?_
  refine z_ldcS (j := 2) F dX6_readPlaces_1 rfl rfl rfl ?_
  refine z_eq (st' := [.ref (ad 1002), .ref (ad 18)]) rfl rfl rfl ?_
  refine zv_v (rest := []) F (kp_X6_needWord_18_1002 l M ⟨hI, hW⟩ (by omega)) cs_X6_106 (T := TX6) (N := 9) (ci := 6) rfl gs_18 (by decide) (by decide) rfl rfl rfl (Nat.le_of_ble_eq_true rfl) dX6_readPlaces_3 (fun M1 hI p2 => ?_)
  obtain ⟨hI, hW⟩ := hI
  obtain ⟨fp2, xp2⟩ := p2
  have hF := hF.call fp2 (by decide)
  refine z_aload_n F dX6_readPlaces_6 rfl (q := 0) rfl ?_
  refine z_iconst F dX6_readPlaces_7 ?_
  refine z_bipush F dX6_readPlaces_8 (by decide +kernel) ?_
  refine zv_i (rest := []) F (kp_X6_takeNumber_18 l M1 ⟨hI, hW⟩ 1 (by omega) (by omega) 10 (by omega) (by omega) (by omega)) cs_X6_110 (T := TX6) (N := 9) (ci := 6) rfl gs_18 (by decide) (by decide) rfl rfl rfl (Nat.le_of_ble_eq_true rfl) dX6_readPlaces_10 (fun v3 M4 rv3 hI p5 => ?_)
  obtain ⟨hI, hW⟩ := hI
  obtain ⟨⟨av3, bv3⟩, fp5, xp5⟩ := p5
  have hF := hF.call fp5 (by decide)
  have hkv3 : -1 ≤ v3 ∧ v3 ≤ 10 := by omega
  refine z_istore_n F dX6_readPlaces_13 rfl (by decide) (ls' := [(1, ii v3), (0, .ref (ad 18))]) rfl ?_
  refine z_aload_n F dX6_readPlaces_14 rfl (q := 1) rfl ?_
  refine rf_X6_12 F gs_18 rfl dX6_readPlaces_15 ?_
  refine z_iload_n F dX6_readPlaces_18 rfl (q := 0) rfl ?_
  refine zv_v (rest := []) F (kp_X9_open_19 l M4 ⟨hI, hW⟩ v3 (by omega) (by omega)) cs_X6_114 (T := TX9) (N := 18) (ci := 9) rfl gs_19 (by decide) (by decide) rfl rfl rfl (Nat.le_of_ble_eq_true rfl) dX6_readPlaces_19 (fun M6 hI p7 => ?_)
  obtain ⟨hI, hW⟩ := hI
  have fp7 := p7
  have hF := hF.call fp7 (by decide)
  have tM6_18_1 : M6 18 1 = M4 18 1 := fp7.at (by decide)
  have tM6_18_4 : M6 18 4 = M4 18 4 := fp7.at (by decide)
  have tM6_18_5 : M6 18 5 = M4 18 5 := fp7.at (by decide)
  have tM6_18_6 : M6 18 6 = M4 18 6 := fp7.at (by decide)
  refine z_aload_n F dX6_readPlaces_22 rfl (q := 1) rfl ?_
  refine zv_v (rest := []) F (kp_X6_endLine_18 l M6 ⟨hI, hW⟩ (by omega)) cs_X6_117 (T := TX6) (N := 9) (ci := 6) rfl gs_18 (by decide) (by decide) rfl rfl rfl (Nat.le_of_ble_eq_true rfl) dX6_readPlaces_23 (fun M8 hI p9 => ?_)
  obtain ⟨hI, hW⟩ := hI
  obtain ⟨fp9, xp9⟩ := p9
  have hF := hF.call fp9 (by decide)
  exact hret _ 26 _ ⟨hI, hW⟩ ⟨hF, (by omega)⟩ dX6_readPlaces_26
