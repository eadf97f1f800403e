theorem dX6_comparisonHere_0 : decode cX6_comparisonHere 0 = .ok (.aload_n 0, 1) := by decide +kernel
theorem dX6_comparisonHere_1 : decode cX6_comparisonHere 1 = .ok (.bipush 61, 2) := by decide +kernel
theorem dX6_comparisonHere_11 : decode cX6_comparisonHere 11 = .ok (.ireturn, 1) := by decide +kernel
theorem dX6_comparisonHere_12 : decode cX6_comparisonHere 12 = .ok (.aload_n 0, 1) := by decide +kernel
theorem dX6_comparisonHere_13 : decode cX6_comparisonHere 13 = .ok (.bipush 60, 2) := by decide +kernel
theorem dX6_comparisonHere_15 : decode cX6_comparisonHere 15 = .ok (.invokevirtual 93, 3) := by decide +kernel
theorem dX6_comparisonHere_18 : decode cX6_comparisonHere 18 = .ok (.ifCond .eq 6, 3) := by decide +kernel
theorem dX6_comparisonHere_21 : decode cX6_comparisonHere 21 = .ok (.bipush (-14), 2) := by decide +kernel
theorem dX6_comparisonHere_23 : decode cX6_comparisonHere 23 = .ok (.ireturn, 1) := by decide +kernel
theorem dX6_comparisonHere_24 : decode cX6_comparisonHere 24 = .ok (.aload_n 0, 1) := by decide +kernel
theorem dX6_comparisonHere_25 : decode cX6_comparisonHere 25 = .ok (.bipush 62, 2) := by decide +kernel
theorem dX6_comparisonHere_27 : decode cX6_comparisonHere 27 = .ok (.invokevirtual 93, 3) := by decide +kernel
theorem dX6_comparisonHere_3 : decode cX6_comparisonHere 3 = .ok (.invokevirtual 93, 3) := by decide +kernel
theorem dX6_comparisonHere_30 : decode cX6_comparisonHere 30 = .ok (.ifCond .eq 8, 3) := by decide +kernel
theorem dX6_comparisonHere_33 : decode cX6_comparisonHere 33 = .ok (.bipush (-15), 2) := by decide +kernel
theorem dX6_comparisonHere_35 : decode cX6_comparisonHere 35 = .ok (.goto 4, 3) := by decide +kernel
theorem dX6_comparisonHere_38 : decode cX6_comparisonHere 38 = .ok (.iconst 0, 1) := by decide +kernel
theorem dX6_comparisonHere_39 : decode cX6_comparisonHere 39 = .ok (.ireturn, 1) := by decide +kernel
theorem dX6_comparisonHere_6 : decode cX6_comparisonHere 6 = .ok (.ifCond .eq 6, 3) := by decide +kernel
theorem dX6_comparisonHere_9 : decode cX6_comparisonHere 9 = .ok (.bipush (-13), 2) := by decide +kernel
theorem dX6_fail_0 : decode cX6_fail 0 = .ok (.aload_n 0, 1) := by decide +kernel
theorem dX6_fail_1 : decode cX6_fail 1 = .ok (.getfield 36, 3) := by decide +kernel
theorem dX6_fail_12 : decode cX6_fail 12 = .ok (.aload_n 0, 1) := by decide +kernel
theorem dX6_fail_13 : decode cX6_fail 13 = .ok (.aload_n 0, 1) := by decide +kernel
theorem dX6_fail_14 : decode cX6_fail 14 = .ok (.getfield 57, 3) := by decide +kernel
theorem dX6_fail_17 : decode cX6_fail 17 = .ok (.putfield 18, 3) := by decide +kernel
theorem dX6_fail_20 : decode cX6_fail 20 = .ok (.return_, 1) := by decide +kernel
theorem dX6_fail_4 : decode cX6_fail 4 = .ok (.ifCond .ne 16, 3) := by decide +kernel
theorem dX6_fail_7 : decode cX6_fail 7 = .ok (.aload_n 0, 1) := by decide +kernel
theorem dX6_fail_8 : decode cX6_fail 8 = .ok (.iload_n 1, 1) := by decide +kernel
theorem dX6_fail_9 : decode cX6_fail 9 = .ok (.putfield 36, 3) := by decide +kernel
theorem dX6_goDeeper_0 : decode cX6_goDeeper 0 = .ok (.iload_n 1, 1) := by decide +kernel
theorem dX6_goDeeper_1 : decode cX6_goDeeper 1 = .ok (.bipush 6, 2) := by decide +kernel
theorem dX6_goDeeper_11 : decode cX6_goDeeper 11 = .ok (.iconst 0, 1) := by decide +kernel
theorem dX6_goDeeper_12 : decode cX6_goDeeper 12 = .ok (.ireturn, 1) := by decide +kernel
theorem dX6_goDeeper_13 : decode cX6_goDeeper 13 = .ok (.aload_n 0, 1) := by decide +kernel
theorem dX6_goDeeper_14 : decode cX6_goDeeper 14 = .ok (.invokevirtual 42, 3) := by decide +kernel
theorem dX6_goDeeper_17 : decode cX6_goDeeper 17 = .ok (.iconst 1, 1) := by decide +kernel
theorem dX6_goDeeper_18 : decode cX6_goDeeper 18 = .ok (.ireturn, 1) := by decide +kernel
theorem dX6_goDeeper_3 : decode cX6_goDeeper 3 = .ok (.if_icmp .lt 10, 3) := by decide +kernel
theorem dX6_goDeeper_6 : decode cX6_goDeeper 6 = .ok (.aload_n 0, 1) := by decide +kernel
theorem dX6_goDeeper_7 : decode cX6_goDeeper 7 = .ok (.iconst 4, 1) := by decide +kernel
theorem dX6_goDeeper_8 : decode cX6_goDeeper 8 = .ok (.invokevirtual 82, 3) := by decide +kernel
theorem dX6_needSign_0 : decode cX6_needSign 0 = .ok (.aload_n 0, 1) := by decide +kernel
theorem dX6_needSign_1 : decode cX6_needSign 1 = .ok (.iload_n 1, 1) := by decide +kernel
theorem dX6_needSign_12 : decode cX6_needSign 12 = .ok (.goto 7, 3) := by decide +kernel
theorem dX6_needSign_15 : decode cX6_needSign 15 = .ok (.aload_n 0, 1) := by decide +kernel
theorem dX6_needSign_16 : decode cX6_needSign 16 = .ok (.invokevirtual 90, 3) := by decide +kernel
theorem dX6_needSign_19 : decode cX6_needSign 19 = .ok (.return_, 1) := by decide +kernel
theorem dX6_needSign_2 : decode cX6_needSign 2 = .ok (.invokevirtual 93, 3) := by decide +kernel
theorem dX6_needSign_5 : decode cX6_needSign 5 = .ok (.ifCond .eq 10, 3) := by decide +kernel
theorem dX6_needSign_8 : decode cX6_needSign 8 = .ok (.aload_n 0, 1) := by decide +kernel
theorem dX6_needSign_9 : decode cX6_needSign 9 = .ok (.invokevirtual 42, 3) := by decide +kernel
theorem dX6_readSum_0 : decode cX6_readSum 0 = .ok (.aload_n 0, 1) := by decide +kernel
theorem dX6_readSum_1 : decode cX6_readSum 1 = .ok (.iload_n 1, 1) := by decide +kernel
theorem dX6_readSum_11 : decode cX6_readSum 11 = .ok (.if_icmp .ge 64, 3) := by decide +kernel
theorem dX6_readSum_14 : decode cX6_readSum 14 = .ok (.aload_n 0, 1) := by decide +kernel
theorem dX6_readSum_15 : decode cX6_readSum 15 = .ok (.bipush 43, 2) := by decide +kernel
theorem dX6_readSum_17 : decode cX6_readSum 17 = .ok (.invokevirtual 93, 3) := by decide +kernel
theorem dX6_readSum_2 : decode cX6_readSum 2 = .ok (.invokevirtual 259, 3) := by decide +kernel
theorem dX6_readSum_20 : decode cX6_readSum 20 = .ok (.ifCond .ne 12, 3) := by decide +kernel
theorem dX6_readSum_23 : decode cX6_readSum 23 = .ok (.aload_n 0, 1) := by decide +kernel
theorem dX6_readSum_24 : decode cX6_readSum 24 = .ok (.bipush 45, 2) := by decide +kernel
theorem dX6_readSum_26 : decode cX6_readSum 26 = .ok (.invokevirtual 93, 3) := by decide +kernel
theorem dX6_readSum_29 : decode cX6_readSum 29 = .ok (.ifCond .eq 46, 3) := by decide +kernel
theorem dX6_readSum_32 : decode cX6_readSum 32 = .ok (.aload_n 0, 1) := by decide +kernel
theorem dX6_readSum_33 : decode cX6_readSum 33 = .ok (.bipush 43, 2) := by decide +kernel
theorem dX6_readSum_35 : decode cX6_readSum 35 = .ok (.invokevirtual 93, 3) := by decide +kernel
theorem dX6_readSum_38 : decode cX6_readSum 38 = .ok (.ifCond .eq 8, 3) := by decide +kernel
theorem dX6_readSum_41 : decode cX6_readSum 41 = .ok (.bipush (-10), 2) := by decide +kernel
theorem dX6_readSum_43 : decode cX6_readSum 43 = .ok (.goto 5, 3) := by decide +kernel
theorem dX6_readSum_46 : decode cX6_readSum 46 = .ok (.bipush (-11), 2) := by decide +kernel
theorem dX6_readSum_48 : decode cX6_readSum 48 = .ok (.istore_n 3, 1) := by decide +kernel
theorem dX6_readSum_49 : decode cX6_readSum 49 = .ok (.aload_n 0, 1) := by decide +kernel
theorem dX6_readSum_5 : decode cX6_readSum 5 = .ok (.iconst 0, 1) := by decide +kernel
theorem dX6_readSum_50 : decode cX6_readSum 50 = .ok (.invokevirtual 42, 3) := by decide +kernel
theorem dX6_readSum_53 : decode cX6_readSum 53 = .ok (.aload_n 0, 1) := by decide +kernel
theorem dX6_readSum_54 : decode cX6_readSum 54 = .ok (.iload_n 1, 1) := by decide +kernel
theorem dX6_readSum_55 : decode cX6_readSum 55 = .ok (.invokevirtual 259, 3) := by decide +kernel
theorem dX6_readSum_58 : decode cX6_readSum 58 = .ok (.aload_n 0, 1) := by decide +kernel
theorem dX6_readSum_59 : decode cX6_readSum 59 = .ok (.getfield 12, 3) := by decide +kernel
theorem dX6_readSum_6 : decode cX6_readSum 6 = .ok (.istore_n 2, 1) := by decide +kernel
theorem dX6_readSum_62 : decode cX6_readSum 62 = .ok (.getfield 152, 3) := by decide +kernel
theorem dX6_readSum_65 : decode cX6_readSum 65 = .ok (.iload_n 3, 1) := by decide +kernel
theorem dX6_readSum_66 : decode cX6_readSum 66 = .ok (.invokevirtual 239, 3) := by decide +kernel
theorem dX6_readSum_69 : decode cX6_readSum 69 = .ok (.iinc 2 1, 3) := by decide +kernel
theorem dX6_readSum_7 : decode cX6_readSum 7 = .ok (.iload_n 2, 1) := by decide +kernel
theorem dX6_readSum_72 : decode cX6_readSum 72 = .ok (.goto (-65), 3) := by decide +kernel
theorem dX6_readSum_75 : decode cX6_readSum 75 = .ok (.return_, 1) := by decide +kernel
theorem dX6_readSum_8 : decode cX6_readSum 8 = .ok (.sipush 900, 3) := by decide +kernel
theorem dX6_readUnit_0 : decode cX6_readUnit 0 = .ok (.aload_n 0, 1) := by decide +kernel
theorem dX6_readUnit_1 : decode cX6_readUnit 1 = .ok (.ldc 247, 2) := by decide +kernel
theorem dX6_readUnit_10 : decode cX6_readUnit 10 = .ok (.iload_n 1, 1) := by decide +kernel
theorem dX6_readUnit_102 : decode cX6_readUnit 102 = .ok (.aload_n 0, 1) := by decide +kernel
theorem dX6_readUnit_103 : decode cX6_readUnit 103 = .ok (.getfield 12, 3) := by decide +kernel
theorem dX6_readUnit_106 : decode cX6_readUnit 106 = .ok (.getfield 152, 3) := by decide +kernel
theorem dX6_readUnit_109 : decode cX6_readUnit 109 = .ok (.iload_n 2, 1) := by decide +kernel
theorem dX6_readUnit_11 : decode cX6_readUnit 11 = .ok (.invokevirtual 249, 3) := by decide +kernel
theorem dX6_readUnit_110 : decode cX6_readUnit 110 = .ok (.invokevirtual 239, 3) := by decide +kernel
theorem dX6_readUnit_113 : decode cX6_readUnit 113 = .ok (.return_, 1) := by decide +kernel
theorem dX6_readUnit_14 : decode cX6_readUnit 14 = .ok (.ifCond .eq 99, 3) := by decide +kernel
theorem dX6_readUnit_17 : decode cX6_readUnit 17 = .ok (.aload_n 0, 1) := by decide +kernel
theorem dX6_readUnit_18 : decode cX6_readUnit 18 = .ok (.iload_n 1, 1) := by decide +kernel
theorem dX6_readUnit_19 : decode cX6_readUnit 19 = .ok (.iconst 1, 1) := by decide +kernel
theorem dX6_readUnit_20 : decode cX6_readUnit 20 = .ok (.iadd, 1) := by decide +kernel
theorem dX6_readUnit_21 : decode cX6_readUnit 21 = .ok (.invokevirtual 242, 3) := by decide +kernel
theorem dX6_readUnit_24 : decode cX6_readUnit 24 = .ok (.aload_n 0, 1) := by decide +kernel
theorem dX6_readUnit_25 : decode cX6_readUnit 25 = .ok (.getfield 12, 3) := by decide +kernel
theorem dX6_readUnit_28 : decode cX6_readUnit 28 = .ok (.getfield 152, 3) := by decide +kernel
theorem dX6_readUnit_3 : decode cX6_readUnit 3 = .ok (.invokevirtual 86, 3) := by decide +kernel
theorem dX6_readUnit_31 : decode cX6_readUnit 31 = .ok (.bipush (-9), 2) := by decide +kernel
theorem dX6_readUnit_33 : decode cX6_readUnit 33 = .ok (.invokevirtual 239, 3) := by decide +kernel
theorem dX6_readUnit_36 : decode cX6_readUnit 36 = .ok (.goto 77, 3) := by decide +kernel
theorem dX6_readUnit_39 : decode cX6_readUnit 39 = .ok (.aload_n 0, 1) := by decide +kernel
theorem dX6_readUnit_40 : decode cX6_readUnit 40 = .ok (.bipush 91, 2) := by decide +kernel
theorem dX6_readUnit_42 : decode cX6_readUnit 42 = .ok (.invokevirtual 93, 3) := by decide +kernel
theorem dX6_readUnit_45 : decode cX6_readUnit 45 = .ok (.ifCond .eq 27, 3) := by decide +kernel
theorem dX6_readUnit_48 : decode cX6_readUnit 48 = .ok (.aload_n 0, 1) := by decide +kernel
theorem dX6_readUnit_49 : decode cX6_readUnit 49 = .ok (.iload_n 1, 1) := by decide +kernel
theorem dX6_readUnit_50 : decode cX6_readUnit 50 = .ok (.invokevirtual 249, 3) := by decide +kernel
theorem dX6_readUnit_53 : decode cX6_readUnit 53 = .ok (.ifCond .eq 60, 3) := by decide +kernel
theorem dX6_readUnit_56 : decode cX6_readUnit 56 = .ok (.aload_n 0, 1) := by decide +kernel
theorem dX6_readUnit_57 : decode cX6_readUnit 57 = .ok (.iload_n 1, 1) := by decide +kernel
theorem dX6_readUnit_58 : decode cX6_readUnit 58 = .ok (.iconst 1, 1) := by decide +kernel
theorem dX6_readUnit_59 : decode cX6_readUnit 59 = .ok (.iadd, 1) := by decide +kernel
theorem dX6_readUnit_6 : decode cX6_readUnit 6 = .ok (.ifCond .eq 33, 3) := by decide +kernel
theorem dX6_readUnit_60 : decode cX6_readUnit 60 = .ok (.invokevirtual 160, 3) := by decide +kernel
theorem dX6_readUnit_63 : decode cX6_readUnit 63 = .ok (.aload_n 0, 1) := by decide +kernel
theorem dX6_readUnit_64 : decode cX6_readUnit 64 = .ok (.bipush 93, 2) := by decide +kernel
theorem dX6_readUnit_66 : decode cX6_readUnit 66 = .ok (.invokevirtual 120, 3) := by decide +kernel
theorem dX6_readUnit_69 : decode cX6_readUnit 69 = .ok (.goto 44, 3) := by decide +kernel
theorem dX6_readUnit_72 : decode cX6_readUnit 72 = .ok (.aload_n 0, 1) := by decide +kernel
theorem dX6_readUnit_73 : decode cX6_readUnit 73 = .ok (.iload_n 1, 1) := by decide +kernel
theorem dX6_readUnit_74 : decode cX6_readUnit 74 = .ok (.invokevirtual 253, 3) := by decide +kernel
theorem dX6_readUnit_77 : decode cX6_readUnit 77 = .ok (.aload_n 0, 1) := by decide +kernel
theorem dX6_readUnit_78 : decode cX6_readUnit 78 = .ok (.invokevirtual 256, 3) := by decide +kernel
theorem dX6_readUnit_81 : decode cX6_readUnit 81 = .ok (.istore_n 2, 1) := by decide +kernel
theorem dX6_readUnit_82 : decode cX6_readUnit 82 = .ok (.iload_n 2, 1) := by decide +kernel
theorem dX6_readUnit_83 : decode cX6_readUnit 83 = .ok (.ifCond .ne 10, 3) := by decide +kernel
theorem dX6_readUnit_86 : decode cX6_readUnit 86 = .ok (.aload_n 0, 1) := by decide +kernel
theorem dX6_readUnit_87 : decode cX6_readUnit 87 = .ok (.invokevirtual 90, 3) := by decide +kernel
theorem dX6_readUnit_9 : decode cX6_readUnit 9 = .ok (.aload_n 0, 1) := by decide +kernel
theorem dX6_readUnit_90 : decode cX6_readUnit 90 = .ok (.goto 7, 3) := by decide +kernel
theorem dX6_readUnit_93 : decode cX6_readUnit 93 = .ok (.aload_n 0, 1) := by decide +kernel
theorem dX6_readUnit_94 : decode cX6_readUnit 94 = .ok (.invokevirtual 42, 3) := by decide +kernel
theorem dX6_readUnit_97 : decode cX6_readUnit 97 = .ok (.aload_n 0, 1) := by decide +kernel
theorem dX6_readUnit_98 : decode cX6_readUnit 98 = .ok (.iload_n 1, 1) := by decide +kernel
theorem dX6_readUnit_99 : decode cX6_readUnit 99 = .ok (.invokevirtual 253, 3) := by decide +kernel
theorem dX6_refuse_0 : decode cX6_refuse 0 = .ok (.aload_n 0, 1) := by decide +kernel
theorem dX6_refuse_1 : decode cX6_refuse 1 = .ok (.aload_n 0, 1) := by decide +kernel
theorem dX6_refuse_10 : decode cX6_refuse 10 = .ok (.goto 4, 3) := by decide +kernel
theorem dX6_refuse_13 : decode cX6_refuse 13 = .ok (.iconst 2, 1) := by decide +kernel
theorem dX6_refuse_14 : decode cX6_refuse 14 = .ok (.invokevirtual 82, 3) := by decide +kernel
theorem dX6_refuse_17 : decode cX6_refuse 17 = .ok (.return_, 1) := by decide +kernel
theorem dX6_refuse_2 : decode cX6_refuse 2 = .ok (.getfield 48, 3) := by decide +kernel
theorem dX6_refuse_5 : decode cX6_refuse 5 = .ok (.iconst 4, 1) := by decide +kernel
theorem dX6_refuse_6 : decode cX6_refuse 6 = .ok (.if_icmp .ne 7, 3) := by decide +kernel
theorem dX6_refuse_9 : decode cX6_refuse 9 = .ok (.iconst 1, 1) := by decide +kernel
theorem dX6_takeSign_0 : decode cX6_takeSign 0 = .ok (.aload_n 0, 1) := by decide +kernel
theorem dX6_takeSign_1 : decode cX6_takeSign 1 = .ok (.iload_n 1, 1) := by decide +kernel
theorem dX6_takeSign_10 : decode cX6_takeSign 10 = .ok (.aload_n 0, 1) := by decide +kernel
theorem dX6_takeSign_11 : decode cX6_takeSign 11 = .ok (.invokevirtual 42, 3) := by decide +kernel
theorem dX6_takeSign_14 : decode cX6_takeSign 14 = .ok (.iload_n 2, 1) := by decide +kernel
theorem dX6_takeSign_15 : decode cX6_takeSign 15 = .ok (.ireturn, 1) := by decide +kernel
theorem dX6_takeSign_2 : decode cX6_takeSign 2 = .ok (.invokevirtual 93, 3) := by decide +kernel
theorem dX6_takeSign_5 : decode cX6_takeSign 5 = .ok (.istore_n 2, 1) := by decide +kernel
theorem dX6_takeSign_6 : decode cX6_takeSign 6 = .ok (.iload_n 2, 1) := by decide +kernel
theorem dX6_takeSign_7 : decode cX6_takeSign 7 = .ok (.ifCond .eq 7, 3) := by decide +kernel
set_option maxHeartbeats 4000000 in
set_option maxRecDepth 4000 in
theorem kp_X6_comparisonHere_18 (l : Launch) (M : Mem) (hJ : Iw M) (hp0 : M 18 6 ≤ M 18 5 ∧ M 18 5 ≤ M 18 4 ∧ M 18 7 ≤ 4 * (M 18 5 - M 18 6)) : CI l yX6_comparisonHere cX6_comparisonHere 1 (some .int) 2 (fun ad => [.ref (ad 18)]) M (fun z M' => ((-15) ≤ z ∧ z ≤ 0) ∧ M = M' ∧ (¬ z = 0 → M 18 1 = 0) ∧ (Or2 (¬ z = 0 ∧ (isT 61 (absC M) || isT 60 (absC M) || isT 62 (absC M)) = true) (z = 0 ∧ (isT 61 (absC M) || isT 60 (absC M) || isT 62 (absC M)) = false))) := by
  obtain ⟨hI, hW⟩ := hJ
  refine en_i (by decide +kernel) (fun ad => by exact Nat.le_of_ble_eq_true rfl) (fun D cy ad A p e s m args below meth c Q F hret => ?_)
  refine z_eq (ls' := [(0, .ref (ad 18))]) rfl rfl rfl ?_
  refine z_aload_n F dX6_comparisonHere_0 rfl (q := 0) rfl ?_
  refine z_bipush F dX6_comparisonHere_1 (by decide +kernel) ?_
  refine zv_i (rest := []) F (kp_X6_isSign_18 l M ⟨hI, hW⟩ 61 (by omega) (by omega) (by omega)) cs_X6_93 (T := TX6) (N := 9) (ci := 6) rfl gs_18 (by decide) (by decide) rfl rfl rfl (Nat.le_of_ble_eq_true rfl) dX6_comparisonHere_3 (fun v1 M2 rv1 hI p3 => ?_)
  obtain ⟨hI, hW⟩ := hI
  obtain ⟨⟨av1, bv1⟩, rfl, xp3, yp3⟩ := p3
  refine z_if_eq (tgt := 12) F dX6_comparisonHere_6 (by decide +kernel) (by omega) (fun c4 => ?_) (fun c4 => ?_)
  · refine z_aload_n F dX6_comparisonHere_12 rfl (q := 0) rfl ?_
    refine z_bipush F dX6_comparisonHere_13 (by decide +kernel) ?_
    refine zv_i (rest := []) F (kp_X6_isSign_18 l M ⟨hI, hW⟩ 60 (by omega) (by omega) (by omega)) cs_X6_93 (T := TX6) (N := 9) (ci := 6) rfl gs_18 (by decide) (by decide) rfl rfl rfl (Nat.le_of_ble_eq_true rfl) dX6_comparisonHere_15 (fun v5 M6 rv5 hI p7 => ?_)
    obtain ⟨hI, hW⟩ := hI
    obtain ⟨⟨av5, bv5⟩, rfl, xp7, yp7⟩ := p7
    refine z_if_eq (tgt := 24) F dX6_comparisonHere_18 (by decide +kernel) (by omega) (fun c8 => ?_) (fun c8 => ?_)
    · refine z_aload_n F dX6_comparisonHere_24 rfl (q := 0) rfl ?_
      refine z_bipush F dX6_comparisonHere_25 (by decide +kernel) ?_
      refine zv_i (rest := []) F (kp_X6_isSign_18 l M ⟨hI, hW⟩ 62 (by omega) (by omega) (by omega)) cs_X6_93 (T := TX6) (N := 9) (ci := 6) rfl gs_18 (by decide) (by decide) rfl rfl rfl (Nat.le_of_ble_eq_true rfl) dX6_comparisonHere_27 (fun v9 M10 rv9 hI p11 => ?_)
      obtain ⟨hI, hW⟩ := hI
      obtain ⟨⟨av9, bv9⟩, rfl, xp11, yp11⟩ := p11
      refine z_if_eq (tgt := 38) F dX6_comparisonHere_30 (by decide +kernel) (by omega) (fun c12 => ?_) (fun c12 => ?_)
      · refine z_iconst F dX6_comparisonHere_38 ?_
        have b13 := wz_f yp3 (by omega)
        have b14 := wz_f yp7 (by omega)
        have b15 := wz_f yp11 (by omega)
        exact hret _ _ 39 _ (by omega) ⟨hI, hW⟩ ⟨⟨by omega, by omega⟩, rfl, (by omega), (Or.inr ⟨by omega, (by simp [b13, b14, b15])⟩)⟩ dX6_comparisonHere_39
      · refine z_bipush F dX6_comparisonHere_33 (by decide +kernel) ?_
        refine z_goto (tgt := 39) F dX6_comparisonHere_35 (by decide +kernel) ?_
        have b16 := wz_f yp3 (by omega)
        have b17 := wz_f yp7 (by omega)
        have b18 := wz_t yp11 (by omega)
        exact hret _ _ 39 _ (by omega) ⟨hI, hW⟩ ⟨⟨by omega, by omega⟩, rfl, (by omega), (Or.inl ⟨by omega, (by simp [b16, b17, b18])⟩)⟩ dX6_comparisonHere_39
    · refine z_bipush F dX6_comparisonHere_21 (by decide +kernel) ?_
      have b19 := wz_f yp3 (by omega)
      have b20 := wz_t yp7 (by omega)
      exact hret _ _ 23 _ (by omega) ⟨hI, hW⟩ ⟨⟨by omega, by omega⟩, rfl, (by omega), (Or.inl ⟨by omega, (by simp [b19, b20])⟩)⟩ dX6_comparisonHere_23
  · refine z_bipush F dX6_comparisonHere_9 (by decide +kernel) ?_
    have b21 := wz_t yp3 (by omega)
    exact hret _ _ 11 _ (by omega) ⟨hI, hW⟩ ⟨⟨by omega, by omega⟩, rfl, (by omega), (Or.inl ⟨by omega, (by simp [b21])⟩)⟩ dX6_comparisonHere_11
set_option maxHeartbeats 4000000 in
set_option maxRecDepth 4000 in
theorem kp_X6_fail_18 (l : Launch) (M : Mem) (hJ : Iw M) (x0 : Int) (hx0a : 1 ≤ x0) (hx0b : x0 ≤ 4) : CV l yX6_fail cX6_fail 2 none 1 (fun ad => [.ref (ad 18), ii x0]) M (fun M' => Fr [18] M M' ∧ (¬ M' 18 1 = 0 ∧ M' 18 4 = M 18 4 ∧ M' 18 5 = M 18 5 ∧ M' 18 6 = M 18 6 ∧ M' 18 7 = M 18 7) ∧ (setf x0 (absC M) = absC M')) := by
  obtain ⟨hI, hW⟩ := hJ
  have hF : Fr [18] M M := Fr.rf
  refine en_v (by decide +kernel) (fun ad => by exact Nat.le_of_ble_eq_true rfl) (fun D cy ad A p e s m args below meth c Q F hret => ?_)
  refine z_eq (ls' := [(0, .ref (ad 18)), (1, ii x0)]) rfl rfl rfl ?_
  refine z_aload_n F dX6_fail_0 rfl (q := 0) rfl ?_
  refine gf_X6_36 F hI gs_18 rfl bd_18_1 dX6_fail_1 (fun v1 ev1 av1 bv1 => ?_)
  refine z_if_ne (tgt := 20) F dX6_fail_4 (by decide +kernel) (by omega) (fun c2 => ?_) (fun c2 => ?_)
  · exact hret _ 20 _ ⟨hI, hW⟩ ⟨hF, (by omega), (setf_f (by rw [vC_fl]; omega))⟩ dX6_fail_20
  · refine z_aload_n F dX6_fail_7 rfl (q := 0) rfl ?_
    refine z_iload_n F dX6_fail_8 rfl (q := 1) rfl ?_
    refine pf_X6_36 F hI gs_18 rfl bd_18_1 rfl rfl dX6_fail_9 (by omega) (by omega) (fun M4 hI sf3 f3 => ?_)
    have tM4_18_2 : M4 18 2 = M 18 2 := f3 18 2 (fun q => absurd q.2 (by decide))
    have tM4_18_4 : M4 18 4 = M 18 4 := f3 18 4 (fun q => absurd q.2 (by decide))
    have tM4_18_5 : M4 18 5 = M 18 5 := f3 18 5 (fun q => absurd q.2 (by decide))
    have tM4_18_6 : M4 18 6 = M 18 6 := f3 18 6 (fun q => absurd q.2 (by decide))
    have tM4_18_7 : M4 18 7 = M 18 7 := f3 18 7 (fun q => absurd q.2 (by decide))
    have tM4_18_8 : M4 18 8 = M 18 8 := f3 18 8 (fun q => absurd q.2 (by decide))
    have tM4_18_2 : M4 18 2 = M 18 2 := f3 18 2 (fun q => absurd q.2 (by decide))
    have hF := hF.wr f3 (by decide) (by decide)
    have hW : WFk M4 := hW.site f3 (by decide)
    refine z_aload_n F dX6_fail_12 rfl (q := 0) rfl ?_
    refine z_aload_n F dX6_fail_13 rfl (q := 0) rfl ?_
    refine gf_X6_57 F hI gs_18 rfl bd_18_6 dX6_fail_14 (fun v5 ev5 av5 bv5 => ?_)
    refine pf_X6_18 F hI gs_18 rfl bd_18_2 rfl rfl dX6_fail_17 (by omega) (by omega) (fun M7 hI sf6 f6 => ?_)
    have tM7_18_1 : M7 18 1 = M4 18 1 := f6 18 1 (fun q => absurd q.2 (by decide))
    have tM7_18_4 : M7 18 4 = M4 18 4 := f6 18 4 (fun q => absurd q.2 (by decide))
    have tM7_18_5 : M7 18 5 = M4 18 5 := f6 18 5 (fun q => absurd q.2 (by decide))
    have tM7_18_6 : M7 18 6 = M4 18 6 := f6 18 6 (fun q => absurd q.2 (by decide))
    have tM7_18_7 : M7 18 7 = M4 18 7 := f6 18 7 (fun q => absurd q.2 (by decide))
    have tM7_18_8 : M7 18 8 = M4 18 8 := f6 18 8 (fun q => absurd q.2 (by decide))
    have hF := hF.wr f6 (by decide) (by decide)
    have hW : WFk M7 := hW.site f6 (by decide)
    exact hret _ 20 _ ⟨hI, hW⟩ ⟨hF, (by omega), (setfC (by omega) (by omega) (by omega) (by omega) (by omega) (fun j => hF.at (by decide)))⟩ dX6_fail_20
set_option maxHeartbeats 4000000 in
set_option maxRecDepth 4000 in
theorem kp_X6_refuse_18 (l : Launch) (M : Mem) (hJ : Iw M) : CV l yX6_refuse cX6_refuse 1 none 2 (fun ad => [.ref (ad 18)]) M (fun M' => Fr [18] M M' ∧ (¬ M' 18 1 = 0 ∧ M' 18 4 = M 18 4 ∧ M' 18 5 = M 18 5 ∧ M' 18 6 = M 18 6 ∧ M' 18 7 = M 18 7) ∧ (blame 2 (absC M) = absC M')) := by
  obtain ⟨hI, hW⟩ := hJ
  have hF : Fr [18] M M := Fr.rf
  refine en_v (by decide +kernel) (fun ad => by exact Nat.le_of_ble_eq_true rfl) (fun D cy ad A p e s m args below meth c Q F hret => ?_)
  refine z_eq (ls' := [(0, .ref (ad 18))]) rfl rfl rfl ?_
  obtain ⟨u1, eu1⟩ : ∃ v : Int, v = M 18 1 := ⟨_, rfl⟩
  have ku1 : (-2147483648) ≤ u1 ∧ u1 ≤ 2147483647 := by have := hI.at (show Bd 18 1 = (-2147483648, 2147483647) from rfl); omega
  obtain ⟨u2, eu2⟩ : ∃ v : Int, v = M 18 2 := ⟨_, rfl⟩
  have ku2 : (-2147483648) ≤ u2 ∧ u2 ≤ 2147483647 := by have := hI.at (show Bd 18 2 = (-2147483648, 2147483647) from rfl); omega
  obtain ⟨u3, eu3⟩ : ∃ v : Int, v = M 18 4 := ⟨_, rfl⟩
  have ku3 : 0 ≤ u3 ∧ u3 ≤ 900 := by have := hI.at (show Bd 18 4 = (0, 900) from rfl); omega
  obtain ⟨u4, eu4⟩ : ∃ v : Int, v = M 18 5 := ⟨_, rfl⟩
  have ku4 : 0 ≤ u4 ∧ u4 ≤ 900 := by have := hI.at (show Bd 18 5 = (0, 900) from rfl); omega
  obtain ⟨u5, eu5⟩ : ∃ v : Int, v = M 18 6 := ⟨_, rfl⟩
  have ku5 : 0 ≤ u5 ∧ u5 ≤ 900 := by have := hI.at (show Bd 18 6 = (0, 900) from rfl); omega
  obtain ⟨u6, eu6⟩ : ∃ v : Int, v = M 18 7 := ⟨_, rfl⟩
  have ku6 : 0 ≤ u6 ∧ u6 ≤ 4 := by have := hI.at (show Bd 18 7 = (0, 4) from rfl); omega
  obtain ⟨u7, eu7⟩ : ∃ v : Int, v = M 18 8 := ⟨_, rfl⟩
  have ku7 : (-2147483648) ≤ u7 ∧ u7 ≤ 2147483647 := by have := hI.at (show Bd 18 8 = (-2147483648, 2147483647) from rfl); omega
  refine z_aload_n F dX6_refuse_0 rfl (q := 0) rfl ?_
  refine z_aload_n F dX6_refuse_1 rfl (q := 0) rfl ?_
  refine gf_X6_48 F hI gs_18 rfl bd_18_7 dX6_refuse_2 (fun v8 ev8 av8 bv8 => ?_)
  have zv8 : u6 = v8 := eu6.trans ev8.symm
  subst zv8
  refine z_iconst F dX6_refuse_5 ?_
  refine z_icmp_ne (tgt := 13) F dX6_refuse_6 (by decide +kernel) (by omega) (by omega) (fun c9 => ?_) (fun c9 => ?_)
  · refine z_iconst F dX6_refuse_13 ?_
    refine zv_v (rest := []) F (kp_X6_fail_18 l M ⟨hI, hW⟩ 2 (by omega) (by omega)) cs_X6_82 (T := TX6) (N := 9) (ci := 6) rfl gs_18 (by decide) (by decide) rfl rfl rfl (Nat.le_of_ble_eq_true rfl) dX6_refuse_14 (fun M10 hI p11 => ?_)
    obtain ⟨hI, hW⟩ := hI
    obtain ⟨fp11, xp11, yp11⟩ := p11
    have hF := hF.call fp11 (by decide)
    exact hret _ 17 _ ⟨hI, hW⟩ ⟨hF, (by omega), (refC_2 (by omega) yp11)⟩ dX6_refuse_17
  · refine z_iconst F dX6_refuse_9 ?_
    refine z_goto (tgt := 14) F dX6_refuse_10 (by decide +kernel) ?_
    refine zv_v (rest := []) F (kp_X6_fail_18 l M ⟨hI, hW⟩ 1 (by omega) (by omega)) cs_X6_82 (T := TX6) (N := 9) (ci := 6) rfl gs_18 (by decide) (by decide) rfl rfl rfl (Nat.le_of_ble_eq_true rfl) dX6_refuse_14 (fun M12 hI p13 => ?_)
    obtain ⟨hI, hW⟩ := hI
    obtain ⟨fp13, xp13, yp13⟩ := p13
    have hF := hF.call fp13 (by decide)
    exact hret _ 17 _ ⟨hI, hW⟩ ⟨hF, (by omega), (refC_1 (by omega) yp13)⟩ dX6_refuse_17
set_option maxHeartbeats 4000000 in
set_option maxRecDepth 4000 in
theorem kp_X6_goDeeper_18 (l : Launch) (M : Mem) (hJ : Iw M) (x0 : Int) (hx0a : 0 ≤ x0) (hx0b : x0 ≤ 6) (hp0 : M 18 6 ≤ M 18 5 ∧ M 18 5 ≤ M 18 4 ∧ M 18 7 ≤ 4 * (M 18 5 - M 18 6)) : CI l yX6_goDeeper cX6_goDeeper 2 (some .boolean) 7 (fun ad => [.ref (ad 18), ii x0]) M (fun z M' => (0 ≤ z ∧ z ≤ 1) ∧ Fr [18] M M' ∧ (M' 18 4 = M 18 4 ∧ M' 18 6 ≤ M' 18 5 ∧ M' 18 5 ≤ M' 18 4 ∧ M' 18 7 ≤ 4 * (M' 18 5 - M' 18 6) ∧ M 18 6 ≤ M' 18 6 ∧ (z = 1 → x0 ≤ 5) ∧ (z = 0 → ¬ M' 18 1 = 0)) ∧ (Im (M 18 1 = 0) (goIn x0 (absC M) = absC M'))) := by
  obtain ⟨hI, hW⟩ := hJ
  have hF : Fr [18] M M := Fr.rf
  refine en_z (by decide +kernel) (fun ad => by exact Nat.le_of_ble_eq_true rfl) (fun D cy ad A p e s m args below meth c Q F hret => ?_)
  refine z_eq (ls' := [(0, .ref (ad 18)), (1, ii x0)]) rfl rfl rfl ?_
  refine z_iload_n F dX6_goDeeper_0 rfl (q := 1) rfl ?_
  refine z_bipush F dX6_goDeeper_1 (by decide +kernel) ?_
  refine z_icmp_lt (tgt := 13) F dX6_goDeeper_3 (by decide +kernel) (by omega) (by omega) (fun c1 => ?_) (fun c1 => ?_)
  · refine z_aload_n F dX6_goDeeper_13 rfl (q := 0) rfl ?_
    refine zv_v (rest := []) F (kp_X6_advance_18 l M ⟨hI, hW⟩ (by omega)) cs_X6_42 (T := TX6) (N := 9) (ci := 6) rfl gs_18 (by decide) (by decide) rfl rfl rfl (Nat.le_of_ble_eq_true rfl) dX6_goDeeper_14 (fun M2 hI p3 => ?_)
    obtain ⟨hI, hW⟩ := hI
    obtain ⟨fp3, xp3, yp3⟩ := p3
    have hF := hF.call fp3 (by decide)
    refine z_iconst F dX6_goDeeper_17 ?_
    exact hret _ _ 18 _ ⟨by omega, by omega⟩ ⟨hI, hW⟩ ⟨⟨by omega, by omega⟩, hF, (by omega), (fun h0 => go_a (by omega) (yp3 h0))⟩ dX6_goDeeper_18
  · refine z_aload_n F dX6_goDeeper_6 rfl (q := 0) rfl ?_
    refine z_iconst F dX6_goDeeper_7 ?_
    refine zv_v (rest := []) F (kp_X6_fail_18 l M ⟨hI, hW⟩ 4 (by omega) (by omega)) cs_X6_82 (T := TX6) (N := 9) (ci := 6) rfl gs_18 (by decide) (by decide) rfl rfl rfl (Nat.le_of_ble_eq_true rfl) dX6_goDeeper_8 (fun M4 hI p5 => ?_)
    obtain ⟨hI, hW⟩ := hI
    obtain ⟨fp5, xp5, yp5⟩ := p5
    have hF := hF.call fp5 (by decide)
    refine z_iconst F dX6_goDeeper_11 ?_
    exact hret _ _ 12 _ ⟨by omega, by omega⟩ ⟨hI, hW⟩ ⟨⟨by omega, by omega⟩, hF, (by omega), (fun h0 => go_4 (by omega) yp5)⟩ dX6_goDeeper_12
set_option maxHeartbeats 4000000 in
set_option maxRecDepth 4000 in
theorem kp_X6_needSign_18 (l : Launch) (M : Mem) (hJ : Iw M) (x0 : Int) (hx0a : 40 ≤ x0) (hx0b : x0 ≤ 125) (hp0 : M 18 6 ≤ M 18 5 ∧ M 18 5 ≤ M 18 4 ∧ M 18 7 ≤ 4 * (M 18 5 - M 18 6)) : CV l yX6_needSign cX6_needSign 2 none 7 (fun ad => [.ref (ad 18), ii x0]) M (fun M' => Fr [18] M M' ∧ (M' 18 4 = M 18 4 ∧ M' 18 6 ≤ M' 18 5 ∧ M' 18 5 ≤ M' 18 4 ∧ M' 18 7 ≤ 4 * (M' 18 5 - M' 18 6) ∧ M 18 6 ≤ M' 18 6 ∧ (M' 18 1 = 0 → M 18 1 = 0) ∧ (M' 18 1 = 0 → M 18 6 < M' 18 6)) ∧ (mustT x0 (absC M) = absC M')) := by
  obtain ⟨hI, hW⟩ := hJ
  have hF : Fr [18] M M := Fr.rf
  refine en_v (by decide +kernel) (fun ad => by exact Nat.le_of_ble_eq_true rfl) (fun D cy ad A p e s m args below meth c Q F hret => ?_)
  refine z_eq (ls' := [(0, .ref (ad 18)), (1, ii x0)]) rfl rfl rfl ?_
  refine z_aload_n F dX6_needSign_0 rfl (q := 0) rfl ?_
  refine z_iload_n F dX6_needSign_1 rfl (q := 1) rfl ?_
  refine zv_i (rest := []) F (kp_X6_isSign_18 l M ⟨hI, hW⟩ x0 (by omega) (by omega) (by omega)) cs_X6_93 (T := TX6) (N := 9) (ci := 6) rfl gs_18 (by decide) (by decide) rfl rfl rfl (Nat.le_of_ble_eq_true rfl) dX6_needSign_2 (fun v1 M2 rv1 hI p3 => ?_)
  obtain ⟨hI, hW⟩ := hI
  obtain ⟨⟨av1, bv1⟩, rfl, xp3, yp3⟩ := p3
  refine z_if_eq (tgt := 15) F dX6_needSign_5 (by decide +kernel) (by omega) (fun c4 => ?_) (fun c4 => ?_)
  · refine z_aload_n F dX6_needSign_15 rfl (q := 0) rfl ?_
    refine zv_v (rest := []) F (kp_X6_refuse_18 l M ⟨hI, hW⟩) cs_X6_90 (T := TX6) (N := 9) (ci := 6) rfl gs_18 (by decide) (by decide) rfl rfl rfl (Nat.le_of_ble_eq_true rfl) dX6_needSign_16 (fun M5 hI p6 => ?_)
    obtain ⟨hI, hW⟩ := hI
    obtain ⟨fp6, xp6, yp6⟩ := p6
    have hF := hF.call fp6 (by decide)
    exact hret _ 19 _ ⟨hI, hW⟩ ⟨hF, (by omega), (musT_n (wz_f yp3 (by omega)) yp6)⟩ dX6_needSign_19
  · refine z_aload_n F dX6_needSign_8 rfl (q := 0) rfl ?_
    refine zv_v (rest := []) F (kp_X6_advance_18 l M ⟨hI, hW⟩ (by omega)) cs_X6_42 (T := TX6) (N := 9) (ci := 6) rfl gs_18 (by decide) (by decide) rfl rfl rfl (Nat.le_of_ble_eq_true rfl) dX6_needSign_9 (fun M7 hI p8 => ?_)
    obtain ⟨hI, hW⟩ := hI
    obtain ⟨fp8, xp8, yp8⟩ := p8
    have hF := hF.call fp8 (by decide)
    refine z_goto (tgt := 19) F dX6_needSign_12 (by decide +kernel) ?_
    exact hret _ 19 _ ⟨hI, hW⟩ ⟨hF, (by omega), (musT_t (wz_t yp3 (by omega)) (yp8 (by omega)))⟩ dX6_needSign_19
set_option maxHeartbeats 4000000 in
set_option maxRecDepth 4000 in
theorem kp_X6_readUnit_18 (l : Launch) (nr : Nat) (ih : RdX l nr) : ∀ (M : Mem) (hJ : Iw M) (x0 : Int) (hx0a : 0 ≤ x0) (hx0b : x0 ≤ 6) (hp0 : M 18 6 ≤ M 18 5 ∧ M 18 5 ≤ M 18 4 ∧ M 18 7 ≤ 4 * (M 18 5 - M 18 6)) (hmu : (6 - x0) * 8 + 4 < ((nr + 1 : Nat) : Int)), CV l yX6_readUnit cX6_readUnit 3 none (12 + (nr + 1)) (fun ad => [.ref (ad 18), ii x0]) M (fun M' => Fr [18, 31, 32] M M' ∧ (M' 18 4 = M 18 4 ∧ M' 18 6 ≤ M' 18 5 ∧ M' 18 5 ≤ M' 18 4 ∧ M' 18 7 ≤ 4 * (M' 18 5 - M' 18 6) ∧ M 18 6 ≤ M' 18 6) ∧ (RdE 2 x0 (absC M) (absC M'))) := by
  intro M hJ x0 hx0a hx0b hp0 hmu
  obtain ⟨hI, hW⟩ := hJ
  have hF : Fr [18, 31, 32] M M := Fr.rf
  refine en_v (by decide +kernel) (fun ad => by exact Nat.le_of_ble_eq_true rfl) (fun D cy ad A p e s m args below meth c Q F hret => ?_)
  refine z_eq (ls' := [(0, .ref (ad 18)), (1, ii x0)]) rfl rfl rfl ?_
  refine z_aload_n F dX6_readUnit_0 rfl (q := 0) rfl ?_
  refine z_ldcS (j := 19) F dX6_readUnit_1 rfl rfl rfl ?_
  refine z_eq (st' := [.ref (ad 1019), .ref (ad 18)]) rfl rfl rfl ?_
  refine zv_i (rest := []) F (kp_X6_isWord_18_1019 l M ⟨hI, hW⟩ (by omega)) cs_X6_86 (T := TX6) (N := 9) (ci := 6) rfl gs_18 (by omega) (by decide) rfl rfl rfl (Nat.le_of_ble_eq_true rfl) dX6_readUnit_3 (fun v1 M2 rv1 hI p3 => ?_)
  obtain ⟨hI, hW⟩ := hI
  obtain ⟨⟨av1, bv1⟩, rfl, xp3, yp3⟩ := p3
  refine z_if_eq (tgt := 39) F dX6_readUnit_6 (by decide +kernel) (by omega) (fun c4 => ?_) (fun c4 => ?_)
  · refine z_aload_n F dX6_readUnit_39 rfl (q := 0) rfl ?_
    refine z_bipush F dX6_readUnit_40 (by decide +kernel) ?_
    refine zv_i (rest := []) F (kp_X6_isSign_18 l M ⟨hI, hW⟩ 91 (by omega) (by omega) (by omega)) cs_X6_93 (T := TX6) (N := 9) (ci := 6) rfl gs_18 (by omega) (by decide) rfl rfl rfl (Nat.le_of_ble_eq_true rfl) dX6_readUnit_42 (fun v5 M6 rv5 hI p7 => ?_)
    obtain ⟨hI, hW⟩ := hI
    obtain ⟨⟨av5, bv5⟩, rfl, xp7, yp7⟩ := p7
    refine z_if_eq (tgt := 72) F dX6_readUnit_45 (by decide +kernel) (by omega) (fun c8 => ?_) (fun c8 => ?_)
    · refine z_aload_n F dX6_readUnit_72 rfl (q := 0) rfl ?_
      refine z_iload_n F dX6_readUnit_73 rfl (q := 1) rfl ?_
      refine zv_v (rest := []) F (ih.2.2.2.1 M ⟨hI, hW⟩ x0 (by omega) (by omega) (by omega) (by omega)) cs_X6_253 (T := TX6) (N := 9) (ci := 6) rfl gs_18 (by omega) (by decide) rfl rfl rfl (Nat.le_of_ble_eq_true rfl) dX6_readUnit_74 (fun M9 hI p10 => ?_)
      obtain ⟨hI, hW⟩ := hI
      obtain ⟨fp10, xp10, yp10⟩ := p10
      have hF := hF.call fp10 (by decide)
      refine z_aload_n F dX6_readUnit_77 rfl (q := 0) rfl ?_
      refine zv_i (rest := []) F (kp_X6_comparisonHere_18 l M9 ⟨hI, hW⟩ (by omega)) cs_X6_256 (T := TX6) (N := 9) (ci := 6) rfl gs_18 (by omega) (by decide) rfl rfl rfl (Nat.le_of_ble_eq_true rfl) dX6_readUnit_78 (fun v11 M12 rv11 hI p13 => ?_)
      obtain ⟨hI, hW⟩ := hI
      obtain ⟨⟨av11, bv11⟩, rfl, xp13, yp13⟩ := p13
      refine z_istore_n F dX6_readUnit_81 rfl (by decide) (ls' := [(2, ii v11), (0, .ref (ad 18)), (1, ii x0)]) rfl ?_
      refine z_iload_n F dX6_readUnit_82 rfl (q := 0) rfl ?_
      refine z_if_ne (tgt := 93) F dX6_readUnit_83 (by decide +kernel) (by omega) (fun c14 => ?_) (fun c14 => ?_)
      · refine z_aload_n F dX6_readUnit_93 rfl (q := 1) rfl ?_
        refine zv_v (rest := []) F (kp_X6_advance_18 l M9 ⟨hI, hW⟩ (by omega)) cs_X6_42 (T := TX6) (N := 9) (ci := 6) rfl gs_18 (by omega) (by decide) rfl rfl rfl (Nat.le_of_ble_eq_true rfl) dX6_readUnit_94 (fun M15 hI p16 => ?_)
        obtain ⟨hI, hW⟩ := hI
        obtain ⟨fp16, xp16, yp16⟩ := p16
        have hF := hF.call fp16 (by decide)
        refine z_aload_n F dX6_readUnit_97 rfl (q := 1) rfl ?_
        refine z_iload_n F dX6_readUnit_98 rfl (q := 2) rfl ?_
        refine zv_v (rest := []) F (ih.2.2.2.1 M15 ⟨hI, hW⟩ x0 (by omega) (by omega) (by omega) (by omega)) cs_X6_253 (T := TX6) (N := 9) (ci := 6) rfl gs_18 (by omega) (by decide) rfl rfl rfl (Nat.le_of_ble_eq_true rfl) dX6_readUnit_99 (fun M17 hI p18 => ?_)
        obtain ⟨hI, hW⟩ := hI
        obtain ⟨fp18, xp18, yp18⟩ := p18
        have hF := hF.call fp18 (by decide)
        refine z_aload_n F dX6_readUnit_102 rfl (q := 1) rfl ?_
        refine rf_X6_12 F gs_18 rfl dX6_readUnit_103 ?_
        refine rf_X6_152 F gs_19 rfl dX6_readUnit_106 ?_
        refine z_iload_n F dX6_readUnit_109 rfl (q := 0) rfl ?_
        refine zv_v (rest := []) F (k_X2_append_31 l M17 ⟨hI, hW⟩ v11 (by omega) (by omega)) cs_X6_239 (T := TX2) (N := 5) (ci := 2) rfl gs_31 (by omega) (by decide) rfl rfl rfl (Nat.le_of_ble_eq_true rfl) dX6_readUnit_110 (fun M19 hI p20 => ?_)
        obtain ⟨hI, hW⟩ := hI
        obtain ⟨fp20, yp20⟩ := p20
        have hF := hF.call fp20 (by decide)
        have tM19_18_1 : M19 18 1 = M17 18 1 := fp20.at (by decide)
        have tM19_18_4 : M19 18 4 = M17 18 4 := fp20.at (by decide)
        have tM19_18_5 : M19 18 5 = M17 18 5 := fp20.at (by decide)
        have tM19_18_6 : M19 18 6 = M17 18 6 := fp20.at (by decide)
        have tM19_18_7 : M19 18 7 = M17 18 7 := fp20.at (by decide)
        have q22 : cmpT (absC M9) = absC M15 := cmp_t (yp13.elim (fun q => q.2) (fun q => absurd q.1 (by omega))) (yp16 (by omega))
        have y21 := yp18
        rw [← q22] at y21
        exact hret _ 113 _ ⟨hI, hW⟩ ⟨hF, (by omega), (by rw [yp20]; exact r_cmp (wz_f yp3 (by omega)) (wz_f yp7 (by omega)) yp10 y21)⟩ dX6_readUnit_113
      · refine z_aload_n F dX6_readUnit_86 rfl (q := 1) rfl ?_
        refine zv_v (rest := []) F (kp_X6_refuse_18 l M9 ⟨hI, hW⟩) cs_X6_90 (T := TX6) (N := 9) (ci := 6) rfl gs_18 (by omega) (by decide) rfl rfl rfl (Nat.le_of_ble_eq_true rfl) dX6_readUnit_87 (fun M23 hI p24 => ?_)
        obtain ⟨hI, hW⟩ := hI
        obtain ⟨fp24, xp24, yp24⟩ := p24
        have hF := hF.call fp24 (by decide)
        refine z_goto (tgt := 97) F dX6_readUnit_90 (by decide +kernel) ?_
        refine z_aload_n F dX6_readUnit_97 rfl (q := 1) rfl ?_
        refine z_iload_n F dX6_readUnit_98 rfl (q := 2) rfl ?_
        refine zv_v (rest := []) F (ih.2.2.2.1 M23 ⟨hI, hW⟩ x0 (by omega) (by omega) (by omega) (by omega)) cs_X6_253 (T := TX6) (N := 9) (ci := 6) rfl gs_18 (by omega) (by decide) rfl rfl rfl (Nat.le_of_ble_eq_true rfl) dX6_readUnit_99 (fun M25 hI p26 => ?_)
        obtain ⟨hI, hW⟩ := hI
        obtain ⟨fp26, xp26, yp26⟩ := p26
        have hF := hF.call fp26 (by decide)
        refine z_aload_n F dX6_readUnit_102 rfl (q := 1) rfl ?_
        refine rf_X6_12 F gs_18 rfl dX6_readUnit_103 ?_
        refine rf_X6_152 F gs_19 rfl dX6_readUnit_106 ?_
        refine z_iload_n F dX6_readUnit_109 rfl (q := 0) rfl ?_
        refine zv_v (rest := []) F (k_X2_append_31 l M25 ⟨hI, hW⟩ v11 (by omega) (by omega)) cs_X6_239 (T := TX2) (N := 5) (ci := 2) rfl gs_31 (by omega) (by decide) rfl rfl rfl (Nat.le_of_ble_eq_true rfl) dX6_readUnit_110 (fun M27 hI p28 => ?_)
        obtain ⟨hI, hW⟩ := hI
        obtain ⟨fp28, yp28⟩ := p28
        have hF := hF.call fp28 (by decide)
        have tM27_18_1 : M27 18 1 = M25 18 1 := fp28.at (by decide)
        have tM27_18_4 : M27 18 4 = M25 18 4 := fp28.at (by decide)
        have tM27_18_5 : M27 18 5 = M25 18 5 := fp28.at (by decide)
        have tM27_18_6 : M27 18 6 = M25 18 6 := fp28.at (by decide)
        have tM27_18_7 : M27 18 7 = M25 18 7 := fp28.at (by decide)
        have q30 : cmpT (absC M9) = absC M23 := cmp_n (yp13.elim (fun q => absurd (by omega) q.1) (fun q => q.2)) yp24
        have y29 := yp26
        rw [← q30] at y29
        exact hret _ 113 _ ⟨hI, hW⟩ ⟨hF, (by omega), (by rw [yp28]; exact r_cmp (wz_f yp3 (by omega)) (wz_f yp7 (by omega)) yp10 y29)⟩ dX6_readUnit_113
    · refine z_aload_n F dX6_readUnit_48 rfl (q := 0) rfl ?_
      refine z_iload_n F dX6_readUnit_49 rfl (q := 1) rfl ?_
      refine zv_i (rest := []) F (kp_X6_goDeeper_18 l M ⟨hI, hW⟩ x0 (by omega) (by omega) (by omega)) cs_X6_249 (T := TX6) (N := 9) (ci := 6) rfl gs_18 (by omega) (by decide) rfl rfl rfl (Nat.le_of_ble_eq_true rfl) dX6_readUnit_50 (fun v31 M32 rv31 hI p33 => ?_)
      obtain ⟨hI, hW⟩ := hI
      obtain ⟨⟨av31, bv31⟩, fp33, xp33, yp33⟩ := p33
      have hF := hF.call fp33 (by decide)
      refine z_if_eq (tgt := 113) F dX6_readUnit_53 (by decide +kernel) (by omega) (fun c34 => ?_) (fun c34 => ?_)
      · have q36 := yp33 (by omega)
        have y35 := r_brk (wz_f yp3 (by omega)) (wz_t yp7 (by omega)) (show RdE 0 (x0 + 1) (goIn x0 (absC M)) (absC M32) from by rw [q36]; exact rdE_f (by rw [vC_fl]; omega))
        rw [mustT_f (by rw [vC_fl]; omega)] at y35
        exact hret _ 113 _ ⟨hI, hW⟩ ⟨hF, (by omega), y35⟩ dX6_readUnit_113
      · refine z_aload_n F dX6_readUnit_56 rfl (q := 0) rfl ?_
        refine z_iload_n F dX6_readUnit_57 rfl (q := 1) rfl ?_
        refine z_iconst F dX6_readUnit_58 ?_
        refine z_iadd F dX6_readUnit_59 ?_
        refine zv_v (rest := []) F (ih.1 M32 ⟨hI, hW⟩ (x0 + 1) (by omega) (by omega) (by omega) (by omega)) cs_X6_160 (T := TX6) (N := 9) (ci := 6) rfl gs_18 (by omega) (by decide) rfl rfl rfl (Nat.le_of_ble_eq_true rfl) dX6_readUnit_60 (fun M37 hI p38 => ?_)
        obtain ⟨hI, hW⟩ := hI
        obtain ⟨fp38, xp38, yp38⟩ := p38
        have hF := hF.call fp38 (by decide)
        refine z_aload_n F dX6_readUnit_63 rfl (q := 0) rfl ?_
        refine z_bipush F dX6_readUnit_64 (by decide +kernel) ?_
        refine zv_v (rest := []) F (kp_X6_needSign_18 l M37 ⟨hI, hW⟩ 93 (by omega) (by omega) (by omega)) cs_X6_120 (T := TX6) (N := 9) (ci := 6) rfl gs_18 (by omega) (by decide) rfl rfl rfl (Nat.le_of_ble_eq_true rfl) dX6_readUnit_66 (fun M39 hI p40 => ?_)
        obtain ⟨hI, hW⟩ := hI
        obtain ⟨fp40, xp40, yp40⟩ := p40
        have hF := hF.call fp40 (by decide)
        refine z_goto (tgt := 113) F dX6_readUnit_69 (by decide +kernel) ?_
        have q42 := yp33 (by omega)
        have y41 := yp38
        rw [← q42] at y41
        exact hret _ 113 _ ⟨hI, hW⟩ ⟨hF, (by omega), (by rw [← yp40]; exact r_brk (wz_f yp3 (by omega)) (wz_t yp7 (by omega)) y41)⟩ dX6_readUnit_113
  · refine z_aload_n F dX6_readUnit_9 rfl (q := 0) rfl ?_
    refine z_iload_n F dX6_readUnit_10 rfl (q := 1) rfl ?_
    refine zv_i (rest := []) F (kp_X6_goDeeper_18 l M ⟨hI, hW⟩ x0 (by omega) (by omega) (by omega)) cs_X6_249 (T := TX6) (N := 9) (ci := 6) rfl gs_18 (by omega) (by decide) rfl rfl rfl (Nat.le_of_ble_eq_true rfl) dX6_readUnit_11 (fun v43 M44 rv43 hI p45 => ?_)
    obtain ⟨hI, hW⟩ := hI
    obtain ⟨⟨av43, bv43⟩, fp45, xp45, yp45⟩ := p45
    have hF := hF.call fp45 (by decide)
    refine z_if_eq (tgt := 113) F dX6_readUnit_14 (by decide +kernel) (by omega) (fun c46 => ?_) (fun c46 => ?_)
    · have q48 := yp45 (by omega)
      exact hret _ 113 _ ⟨hI, hW⟩ ⟨hF, (by omega), (r_not (wz_t yp3 (by omega)) (by rw [q48]; exact rdE_f (by rw [vC_fl]; omega)))⟩ dX6_readUnit_113
    · refine z_aload_n F dX6_readUnit_17 rfl (q := 0) rfl ?_
      refine z_iload_n F dX6_readUnit_18 rfl (q := 1) rfl ?_
      refine z_iconst F dX6_readUnit_19 ?_
      refine z_iadd F dX6_readUnit_20 ?_
      refine zv_v (rest := []) F (ih.2.2.1 M44 ⟨hI, hW⟩ (x0 + 1) (by omega) (by omega) (by omega) (by omega)) cs_X6_242 (T := TX6) (N := 9) (ci := 6) rfl gs_18 (by omega) (by decide) rfl rfl rfl (Nat.le_of_ble_eq_true rfl) dX6_readUnit_21 (fun M49 hI p50 => ?_)
      obtain ⟨hI, hW⟩ := hI
      obtain ⟨fp50, xp50, yp50⟩ := p50
      have hF := hF.call fp50 (by decide)
      refine z_aload_n F dX6_readUnit_24 rfl (q := 0) rfl ?_
      refine rf_X6_12 F gs_18 rfl dX6_readUnit_25 ?_
      refine rf_X6_152 F gs_19 rfl dX6_readUnit_28 ?_
      refine z_bipush F dX6_readUnit_31 (by decide +kernel) ?_
      refine zv_v (rest := []) F (k_X2_append_31 l M49 ⟨hI, hW⟩ (-9) (by omega) (by omega)) cs_X6_239 (T := TX2) (N := 5) (ci := 2) rfl gs_31 (by omega) (by decide) rfl rfl rfl (Nat.le_of_ble_eq_true rfl) dX6_readUnit_33 (fun M51 hI p52 => ?_)
      obtain ⟨hI, hW⟩ := hI
      obtain ⟨fp52, yp52⟩ := p52
      have hF := hF.call fp52 (by decide)
      have tM51_18_1 : M51 18 1 = M49 18 1 := fp52.at (by decide)
      have tM51_18_4 : M51 18 4 = M49 18 4 := fp52.at (by decide)
      have tM51_18_5 : M51 18 5 = M49 18 5 := fp52.at (by decide)
      have tM51_18_6 : M51 18 6 = M49 18 6 := fp52.at (by decide)
      have tM51_18_7 : M51 18 7 = M49 18 7 := fp52.at (by decide)
      refine z_goto (tgt := 113) F dX6_readUnit_36 (by decide +kernel) ?_
      have q54 := yp45 (by omega)
      have y53 := yp50
      rw [← q54] at y53
      exact hret _ 113 _ ⟨hI, hW⟩ ⟨hF, (by omega), (by rw [yp52]; exact r_not (wz_t yp3 (by omega)) y53)⟩ dX6_readUnit_113
set_option maxHeartbeats 4000000 in
set_option maxRecDepth 4000 in
theorem kp_X6_readSum_18 (l : Launch) (nr : Nat) (ih : RdX l nr) : ∀ (M : Mem) (hJ : Iw M) (x0 : Int) (hx0a : 0 ≤ x0) (hx0b : x0 ≤ 6) (hp0 : M 18 6 ≤ M 18 5 ∧ M 18 5 ≤ M 18 4 ∧ M 18 7 ≤ 4 * (M 18 5 - M 18 6)) (hmu : (6 - x0) * 8 + 3 < ((nr + 1 : Nat) : Int)), CV l yX6_readSum cX6_readSum 4 none (12 + (nr + 1)) (fun ad => [.ref (ad 18), ii x0]) M (fun M' => Fr [18, 31, 32] M M' ∧ (M' 18 4 = M 18 4 ∧ M' 18 6 ≤ M' 18 5 ∧ M' 18 5 ≤ M' 18 4 ∧ M' 18 7 ≤ 4 * (M' 18 5 - M' 18 6) ∧ M 18 6 ≤ M' 18 6) ∧ (RdE 3 x0 (absC M) (absC M'))) := by
  intro M hJ x0 hx0a hx0b hp0 hmu
  obtain ⟨hI, hW⟩ := hJ
  have hF : Fr [18, 31, 32] M M := Fr.rf
  refine en_v (by decide +kernel) (fun ad => by exact Nat.le_of_ble_eq_true rfl) (fun D cy ad A p e s m args below meth c Q F hret => ?_)
  refine z_eq (ls' := [(0, .ref (ad 18)), (1, ii x0)]) rfl rfl rfl ?_
  obtain ⟨u1, eu1⟩ : ∃ v : Int, v = M 18 4 := ⟨_, rfl⟩
  have ku1 : 0 ≤ u1 ∧ u1 ≤ 900 := by have := hI.at (show Bd 18 4 = (0, 900) from rfl); omega
  obtain ⟨u2, eu2⟩ : ∃ v : Int, v = M 18 6 := ⟨_, rfl⟩
  have ku2 : 0 ≤ u2 ∧ u2 ≤ 900 := by have := hI.at (show Bd 18 6 = (0, 900) from rfl); omega
  refine z_aload_n F dX6_readSum_0 rfl (q := 0) rfl ?_
  refine z_iload_n F dX6_readSum_1 rfl (q := 1) rfl ?_
  refine zv_v (rest := []) F (ih.2.2.2.2.1 M ⟨hI, hW⟩ x0 (by omega) (by omega) (by omega) (by omega)) cs_X6_259 (T := TX6) (N := 9) (ci := 6) rfl gs_18 (by omega) (by decide) rfl rfl rfl (Nat.le_of_ble_eq_true rfl) dX6_readSum_2 (fun M3 hI p4 => ?_)
  obtain ⟨hI, hW⟩ := hI
  obtain ⟨fp4, xp4, yp4⟩ := p4
  have hF := hF.call fp4 (by decide)
  refine z_iconst F dX6_readSum_5 ?_
  refine z_istore_n F dX6_readSum_6 rfl (by decide) (ls' := [(2, ii 0), (0, .ref (ad 18)), (1, ii x0)]) rfl ?_
  refine z_loc [1, 2, 0] (ls' := [(0, .ref (ad 18)), (1, ii x0), (2, ii 0)]) rfl ?_
  suffices key7 : ∀ (n : Nat) (y6 : Int) (M5 : Mem), Inv M5 → WFk M5 → Fr [18, 31, 32] M M5 → 0 ≤ y6 → y6 ≤ 900 → (M5 18 4 = M 18 4) → (M5 18 6 ≤ M5 18 5 ∧ M5 18 5 ≤ M5 18 4 ∧ M5 18 7 ≤ 4 * (M5 18 5 - M5 18 6)) → (M 18 6 ≤ M5 18 6) → (y6 ≤ M5 18 6) → (LpI 3 8 x0 (absC M) (absC M5)) → 900 - y6 < (n : Int) → Z D cy ad p l e (RMh (12 + (nr + 1))) s m args below meth c A 4 0 0 Q 7 [(0, .ref (ad 18)), (1, ii x0), (2, ii y6)] [] M5 from key7 901 0 M3 hI hW hF (by omega) (by omega) (by omega) (by omega) (by omega) (by omega) (lp_i3 yp4) (by omega)
  intro n7
  induction n7 with
  | zero => intro y6 M5 hI hW hF ay6 by6 i7_0 i7_1 i7_2 i7_3 i7_4 hn7; exfalso; omega
  | succ n7 ih7 =>
    intro y6 M5 hI hW hF ay6 by6 i7_0 i7_1 i7_2 i7_3 i7_4 hn7
    refine z_iload_n F dX6_readSum_7 rfl (q := 2) rfl ?_
    refine z_sipush F dX6_readSum_8 (by decide +kernel) ?_
    refine z_icmp_ge (tgt := 75) F dX6_readSum_11 (by decide +kernel) (by omega) (by omega) (fun c7 => ?_) (fun c7 => ?_)
    · exact hret _ 75 _ ⟨hI, hW⟩ ⟨hF, (by omega), (lp_e3 i7_4 (by rw [isTC_f (c := 43) (Or.inr (by rw [tkC_s (by omega) (by omega)]; omega)), isTC_f (c := 45) (Or.inr (by rw [tkC_s (by omega) (by omega)]; omega))]; rfl))⟩ dX6_readSum_75
    · refine z_aload_n F dX6_readSum_14 rfl (q := 0) rfl ?_
      refine z_bipush F dX6_readSum_15 (by decide +kernel) ?_
      refine zv_i (rest := []) F (kp_X6_isSign_18 l M5 ⟨hI, hW⟩ 43 (by omega) (by omega) (by omega)) cs_X6_93 (T := TX6) (N := 9) (ci := 6) rfl gs_18 (by omega) (by decide) rfl rfl rfl (Nat.le_of_ble_eq_true rfl) dX6_readSum_17 (fun v8 M9 rv8 hI p10 => ?_)
      obtain ⟨hI, hW⟩ := hI
      obtain ⟨⟨av8, bv8⟩, rfl, xp10, yp10⟩ := p10
      refine z_if_ne (tgt := 32) F dX6_readSum_20 (by decide +kernel) (by omega) (fun c11 => ?_) (fun c11 => ?_)
      · refine z_aload_n F dX6_readSum_32 rfl (q := 0) rfl ?_
        refine z_bipush F dX6_readSum_33 (by decide +kernel) ?_
        refine zv_i (rest := []) F (kp_X6_isSign_18 l M5 ⟨hI, hW⟩ 43 (by omega) (by omega) (by omega)) cs_X6_93 (T := TX6) (N := 9) (ci := 6) rfl gs_18 (by omega) (by decide) rfl rfl rfl (Nat.le_of_ble_eq_true rfl) dX6_readSum_35 (fun v12 M13 rv12 hI p14 => ?_)
        obtain ⟨hI, hW⟩ := hI
        obtain ⟨⟨av12, bv12⟩, rfl, xp14, yp14⟩ := p14
        refine z_if_eq (tgt := 46) F dX6_readSum_38 (by decide +kernel) (by omega) (fun c15 => ?_) (fun c15 => ?_)
        · refine z_bipush F dX6_readSum_46 (by decide +kernel) ?_
          refine z_istore_n F dX6_readSum_48 rfl (by decide) (ls' := [(3, ii (-11)), (0, .ref (ad 18)), (1, ii x0), (2, ii y6)]) rfl ?_
          refine z_aload_n F dX6_readSum_49 rfl (q := 1) rfl ?_
          refine zv_v (rest := []) F (kp_X6_advance_18 l M5 ⟨hI, hW⟩ (by omega)) cs_X6_42 (T := TX6) (N := 9) (ci := 6) rfl gs_18 (by omega) (by decide) rfl rfl rfl (Nat.le_of_ble_eq_true rfl) dX6_readSum_50 (fun M16 hI p17 => ?_)
          obtain ⟨hI, hW⟩ := hI
          obtain ⟨fp17, xp17, yp17⟩ := p17
          have hF := hF.call fp17 (by decide)
          refine z_aload_n F dX6_readSum_53 rfl (q := 1) rfl ?_
          refine z_iload_n F dX6_readSum_54 rfl (q := 2) rfl ?_
          refine zv_v (rest := []) F (ih.2.2.2.2.1 M16 ⟨hI, hW⟩ x0 (by omega) (by omega) (by omega) (by omega)) cs_X6_259 (T := TX6) (N := 9) (ci := 6) rfl gs_18 (by omega) (by decide) rfl rfl rfl (Nat.le_of_ble_eq_true rfl) dX6_readSum_55 (fun M18 hI p19 => ?_)
          obtain ⟨hI, hW⟩ := hI
          obtain ⟨fp19, xp19, yp19⟩ := p19
          have hF := hF.call fp19 (by decide)
          refine z_aload_n F dX6_readSum_58 rfl (q := 1) rfl ?_
          refine rf_X6_12 F gs_18 rfl dX6_readSum_59 ?_
          refine rf_X6_152 F gs_19 rfl dX6_readSum_62 ?_
          refine z_iload_n F dX6_readSum_65 rfl (q := 0) rfl ?_
          refine zv_v (rest := []) F (k_X2_append_31 l M18 ⟨hI, hW⟩ (-11) (by omega) (by omega)) cs_X6_239 (T := TX2) (N := 5) (ci := 2) rfl gs_31 (by omega) (by decide) rfl rfl rfl (Nat.le_of_ble_eq_true rfl) dX6_readSum_66 (fun M20 hI p21 => ?_)
          obtain ⟨hI, hW⟩ := hI
          obtain ⟨fp21, yp21⟩ := p21
          have hF := hF.call fp21 (by decide)
          have tM20_18_1 : M20 18 1 = M18 18 1 := fp21.at (by decide)
          have tM20_18_4 : M20 18 4 = M18 18 4 := fp21.at (by decide)
          have tM20_18_5 : M20 18 5 = M18 18 5 := fp21.at (by decide)
          have tM20_18_6 : M20 18 6 = M18 18 6 := fp21.at (by decide)
          have tM20_18_7 : M20 18 7 = M18 18 7 := fp21.at (by decide)
          refine z_iincN F dX6_readSum_69 (q := 3) rfl (by decide) (fun v22 ev22 => ?_)
          refine z_eq (ls' := [(2, ii v22), (3, ii (-11)), (0, .ref (ad 18)), (1, ii x0)]) rfl rfl rfl ?_
          refine z_goto (tgt := 7) F dX6_readSum_72 (by decide +kernel) ?_
          refine z_loc [2, 3, 0] (ls' := [(0, .ref (ad 18)), (1, ii x0), (2, ii v22)]) rfl ?_
          have q23 := yp17 (by omega)
          have y24 := yp19
          rw [← q23] at y24
          exact ih7 v22 M20 hI hW hF (by omega) (by omega) (by omega) (by omega) (by omega) (by omega) (by rw [yp21]; exact lp_b3 i7_4 ((by rw [wz_t yp10 (by omega)]; rfl)) y24) (by omega)
        · refine z_bipush F dX6_readSum_41 (by decide +kernel) ?_
          refine z_goto (tgt := 48) F dX6_readSum_43 (by decide +kernel) ?_
          refine z_istore_n F dX6_readSum_48 rfl (by decide) (ls' := [(3, ii (-10)), (0, .ref (ad 18)), (1, ii x0), (2, ii y6)]) rfl ?_
          refine z_aload_n F dX6_readSum_49 rfl (q := 1) rfl ?_
          refine zv_v (rest := []) F (kp_X6_advance_18 l M5 ⟨hI, hW⟩ (by omega)) cs_X6_42 (T := TX6) (N := 9) (ci := 6) rfl gs_18 (by omega) (by decide) rfl rfl rfl (Nat.le_of_ble_eq_true rfl) dX6_readSum_50 (fun M25 hI p26 => ?_)
          obtain ⟨hI, hW⟩ := hI
          obtain ⟨fp26, xp26, yp26⟩ := p26
          have hF := hF.call fp26 (by decide)
          refine z_aload_n F dX6_readSum_53 rfl (q := 1) rfl ?_
          refine z_iload_n F dX6_readSum_54 rfl (q := 2) rfl ?_
          refine zv_v (rest := []) F (ih.2.2.2.2.1 M25 ⟨hI, hW⟩ x0 (by omega) (by omega) (by omega) (by omega)) cs_X6_259 (T := TX6) (N := 9) (ci := 6) rfl gs_18 (by omega) (by decide) rfl rfl rfl (Nat.le_of_ble_eq_true rfl) dX6_readSum_55 (fun M27 hI p28 => ?_)
          obtain ⟨hI, hW⟩ := hI
          obtain ⟨fp28, xp28, yp28⟩ := p28
          have hF := hF.call fp28 (by decide)
          refine z_aload_n F dX6_readSum_58 rfl (q := 1) rfl ?_
          refine rf_X6_12 F gs_18 rfl dX6_readSum_59 ?_
          refine rf_X6_152 F gs_19 rfl dX6_readSum_62 ?_
          refine z_iload_n F dX6_readSum_65 rfl (q := 0) rfl ?_
          refine zv_v (rest := []) F (k_X2_append_31 l M27 ⟨hI, hW⟩ (-10) (by omega) (by omega)) cs_X6_239 (T := TX2) (N := 5) (ci := 2) rfl gs_31 (by omega) (by decide) rfl rfl rfl (Nat.le_of_ble_eq_true rfl) dX6_readSum_66 (fun M29 hI p30 => ?_)
          obtain ⟨hI, hW⟩ := hI
          obtain ⟨fp30, yp30⟩ := p30
          have hF := hF.call fp30 (by decide)
          have tM29_18_1 : M29 18 1 = M27 18 1 := fp30.at (by decide)
          have tM29_18_4 : M29 18 4 = M27 18 4 := fp30.at (by decide)
          have tM29_18_5 : M29 18 5 = M27 18 5 := fp30.at (by decide)
          have tM29_18_6 : M29 18 6 = M27 18 6 := fp30.at (by decide)
          have tM29_18_7 : M29 18 7 = M27 18 7 := fp30.at (by decide)
          refine z_iincN F dX6_readSum_69 (q := 3) rfl (by decide) (fun v31 ev31 => ?_)
          refine z_eq (ls' := [(2, ii v31), (3, ii (-10)), (0, .ref (ad 18)), (1, ii x0)]) rfl rfl rfl ?_
          refine z_goto (tgt := 7) F dX6_readSum_72 (by decide +kernel) ?_
          refine z_loc [2, 3, 0] (ls' := [(0, .ref (ad 18)), (1, ii x0), (2, ii v31)]) rfl ?_
          have q32 := yp26 (by omega)
          have y33 := yp28
          rw [← q32] at y33
          exact ih7 v31 M29 hI hW hF (by omega) (by omega) (by omega) (by omega) (by omega) (by omega) (by rw [yp30]; exact lp_b3 i7_4 ((by rw [wz_t yp10 (by omega)]; rfl)) y33) (by omega)
      · refine z_aload_n F dX6_readSum_23 rfl (q := 0) rfl ?_
        refine z_bipush F dX6_readSum_24 (by decide +kernel) ?_
        refine zv_i (rest := []) F (kp_X6_isSign_18 l M5 ⟨hI, hW⟩ 45 (by omega) (by omega) (by omega)) cs_X6_93 (T := TX6) (N := 9) (ci := 6) rfl gs_18 (by omega) (by decide) rfl rfl rfl (Nat.le_of_ble_eq_true rfl) dX6_readSum_26 (fun v34 M35 rv34 hI p36 => ?_)
        obtain ⟨hI, hW⟩ := hI
        obtain ⟨⟨av34, bv34⟩, rfl, xp36, yp36⟩ := p36
        refine z_if_eq (tgt := 75) F dX6_readSum_29 (by decide +kernel) (by omega) (fun c37 => ?_) (fun c37 => ?_)
        · exact hret _ 75 _ ⟨hI, hW⟩ ⟨hF, (by omega), (lp_e3 i7_4 (by rw [wz_f yp10 (by omega), wz_f yp36 (by omega)]; rfl))⟩ dX6_readSum_75
        · refine z_aload_n F dX6_readSum_32 rfl (q := 0) rfl ?_
          refine z_bipush F dX6_readSum_33 (by decide +kernel) ?_
          refine zv_i (rest := []) F (kp_X6_isSign_18 l M5 ⟨hI, hW⟩ 43 (by omega) (by omega) (by omega)) cs_X6_93 (T := TX6) (N := 9) (ci := 6) rfl gs_18 (by omega) (by decide) rfl rfl rfl (Nat.le_of_ble_eq_true rfl) dX6_readSum_35 (fun v38 M39 rv38 hI p40 => ?_)
          obtain ⟨hI, hW⟩ := hI
          obtain ⟨⟨av38, bv38⟩, rfl, xp40, yp40⟩ := p40
          refine z_if_eq (tgt := 46) F dX6_readSum_38 (by decide +kernel) (by omega) (fun c41 => ?_) (fun c41 => ?_)
          · refine z_bipush F dX6_readSum_46 (by decide +kernel) ?_
            refine z_istore_n F dX6_readSum_48 rfl (by decide) (ls' := [(3, ii (-11)), (0, .ref (ad 18)), (1, ii x0), (2, ii y6)]) rfl ?_
            refine z_aload_n F dX6_readSum_49 rfl (q := 1) rfl ?_
            refine zv_v (rest := []) F (kp_X6_advance_18 l M5 ⟨hI, hW⟩ (by omega)) cs_X6_42 (T := TX6) (N := 9) (ci := 6) rfl gs_18 (by omega) (by decide) rfl rfl rfl (Nat.le_of_ble_eq_true rfl) dX6_readSum_50 (fun M42 hI p43 => ?_)
            obtain ⟨hI, hW⟩ := hI
            obtain ⟨fp43, xp43, yp43⟩ := p43
            have hF := hF.call fp43 (by decide)
            refine z_aload_n F dX6_readSum_53 rfl (q := 1) rfl ?_
            refine z_iload_n F dX6_readSum_54 rfl (q := 2) rfl ?_
            refine zv_v (rest := []) F (ih.2.2.2.2.1 M42 ⟨hI, hW⟩ x0 (by omega) (by omega) (by omega) (by omega)) cs_X6_259 (T := TX6) (N := 9) (ci := 6) rfl gs_18 (by omega) (by decide) rfl rfl rfl (Nat.le_of_ble_eq_true rfl) dX6_readSum_55 (fun M44 hI p45 => ?_)
            obtain ⟨hI, hW⟩ := hI
            obtain ⟨fp45, xp45, yp45⟩ := p45
            have hF := hF.call fp45 (by decide)
            refine z_aload_n F dX6_readSum_58 rfl (q := 1) rfl ?_
            refine rf_X6_12 F gs_18 rfl dX6_readSum_59 ?_
            refine rf_X6_152 F gs_19 rfl dX6_readSum_62 ?_
            refine z_iload_n F dX6_readSum_65 rfl (q := 0) rfl ?_
            refine zv_v (rest := []) F (k_X2_append_31 l M44 ⟨hI, hW⟩ (-11) (by omega) (by omega)) cs_X6_239 (T := TX2) (N := 5) (ci := 2) rfl gs_31 (by omega) (by decide) rfl rfl rfl (Nat.le_of_ble_eq_true rfl) dX6_readSum_66 (fun M46 hI p47 => ?_)
            obtain ⟨hI, hW⟩ := hI
            obtain ⟨fp47, yp47⟩ := p47
            have hF := hF.call fp47 (by decide)
            have tM46_18_1 : M46 18 1 = M44 18 1 := fp47.at (by decide)
            have tM46_18_4 : M46 18 4 = M44 18 4 := fp47.at (by decide)
            have tM46_18_5 : M46 18 5 = M44 18 5 := fp47.at (by decide)
            have tM46_18_6 : M46 18 6 = M44 18 6 := fp47.at (by decide)
            have tM46_18_7 : M46 18 7 = M44 18 7 := fp47.at (by decide)
            refine z_iincN F dX6_readSum_69 (q := 3) rfl (by decide) (fun v48 ev48 => ?_)
            refine z_eq (ls' := [(2, ii v48), (3, ii (-11)), (0, .ref (ad 18)), (1, ii x0)]) rfl rfl rfl ?_
            refine z_goto (tgt := 7) F dX6_readSum_72 (by decide +kernel) ?_
            refine z_loc [2, 3, 0] (ls' := [(0, .ref (ad 18)), (1, ii x0), (2, ii v48)]) rfl ?_
            have q49 := yp43 (by omega)
            have y50 := yp45
            rw [← q49] at y50
            exact ih7 v48 M46 hI hW hF (by omega) (by omega) (by omega) (by omega) (by omega) (by omega) (by rw [yp47]; exact lp_b3 i7_4 ((by rw [wz_f yp10 (by omega), wz_t yp36 (by omega)]; rfl)) y50) (by omega)
          · refine z_bipush F dX6_readSum_41 (by decide +kernel) ?_
            refine z_goto (tgt := 48) F dX6_readSum_43 (by decide +kernel) ?_
            refine z_istore_n F dX6_readSum_48 rfl (by decide) (ls' := [(3, ii (-10)), (0, .ref (ad 18)), (1, ii x0), (2, ii y6)]) rfl ?_
            refine z_aload_n F dX6_readSum_49 rfl (q := 1) rfl ?_
            refine zv_v (rest := []) F (kp_X6_advance_18 l M5 ⟨hI, hW⟩ (by omega)) cs_X6_42 (T := TX6) (N := 9) (ci := 6) rfl gs_18 (by omega) (by decide) rfl rfl rfl (Nat.le_of_ble_eq_true rfl) dX6_readSum_50 (fun M51 hI p52 => ?_)
            obtain ⟨hI, hW⟩ := hI
            obtain ⟨fp52, xp52, yp52⟩ := p52
            have hF := hF.call fp52 (by decide)
            refine z_aload_n F dX6_readSum_53 rfl (q := 1) rfl ?_
            refine z_iload_n F dX6_readSum_54 rfl (q := 2) rfl ?_
            refine zv_v (rest := []) F (ih.2.2.2.2.1 M51 ⟨hI, hW⟩ x0 (by omega) (by omega) (by omega) (by omega)) cs_X6_259 (T := TX6) (N := 9) (ci := 6) rfl gs_18 (by omega) (by decide) rfl rfl rfl (Nat.le_of_ble_eq_true rfl) dX6_readSum_55 (fun M53 hI p54 => ?_)
            obtain ⟨hI, hW⟩ := hI
            obtain ⟨fp54, xp54, yp54⟩ := p54
            have hF := hF.call fp54 (by decide)
            refine z_aload_n F dX6_readSum_58 rfl (q := 1) rfl ?_
            refine rf_X6_12 F gs_18 rfl dX6_readSum_59 ?_
            refine rf_X6_152 F gs_19 rfl dX6_readSum_62 ?_
            refine z_iload_n F dX6_readSum_65 rfl (q := 0) rfl ?_
            refine zv_v (rest := []) F (k_X2_append_31 l M53 ⟨hI, hW⟩ (-10) (by omega) (by omega)) cs_X6_239 (T := TX2) (N := 5) (ci := 2) rfl gs_31 (by omega) (by decide) rfl rfl rfl (Nat.le_of_ble_eq_true rfl) dX6_readSum_66 (fun M55 hI p56 => ?_)
            obtain ⟨hI, hW⟩ := hI
            obtain ⟨fp56, yp56⟩ := p56
            have hF := hF.call fp56 (by decide)
            have tM55_18_1 : M55 18 1 = M53 18 1 := fp56.at (by decide)
            have tM55_18_4 : M55 18 4 = M53 18 4 := fp56.at (by decide)
            have tM55_18_5 : M55 18 5 = M53 18 5 := fp56.at (by decide)
            have tM55_18_6 : M55 18 6 = M53 18 6 := fp56.at (by decide)
            have tM55_18_7 : M55 18 7 = M53 18 7 := fp56.at (by decide)
            refine z_iincN F dX6_readSum_69 (q := 3) rfl (by decide) (fun v57 ev57 => ?_)
            refine z_eq (ls' := [(2, ii v57), (3, ii (-10)), (0, .ref (ad 18)), (1, ii x0)]) rfl rfl rfl ?_
            refine z_goto (tgt := 7) F dX6_readSum_72 (by decide +kernel) ?_
            refine z_loc [2, 3, 0] (ls' := [(0, .ref (ad 18)), (1, ii x0), (2, ii v57)]) rfl ?_
            have q58 := yp52 (by omega)
            have y59 := yp54
            rw [← q58] at y59
            exact ih7 v57 M55 hI hW hF (by omega) (by omega) (by omega) (by omega) (by omega) (by omega) (by rw [yp56]; exact lp_b3 i7_4 ((by rw [wz_f yp10 (by omega), wz_t yp36 (by omega)]; rfl)) y59) (by omega)
set_option maxHeartbeats 4000000 in
set_option maxRecDepth 4000 in
theorem kp_X6_takeSign_18 (l : Launch) (M : Mem) (hJ : Iw M) (x0 : Int) (hx0a : 40 ≤ x0) (hx0b : x0 ≤ 125) (hp0 : M 18 6 ≤ M 18 5 ∧ M 18 5 ≤ M 18 4 ∧ M 18 7 ≤ 4 * (M 18 5 - M 18 6)) : CI l yX6_takeSign cX6_takeSign 3 (some .boolean) 7 (fun ad => [.ref (ad 18), ii x0]) M (fun z M' => (0 ≤ z ∧ z ≤ 1) ∧ Fr [18] M M' ∧ (M' 18 4 = M 18 4 ∧ M' 18 6 ≤ M' 18 5 ∧ M' 18 5 ≤ M' 18 4 ∧ M' 18 7 ≤ 4 * (M' 18 5 - M' 18 6) ∧ M 18 6 ≤ M' 18 6 ∧ M' 18 1 = M 18 1 ∧ M 18 6 + z ≤ M' 18 6 ∧ (z = 1 → M 18 1 = 0)) ∧ (WZ z (isT x0 (absC M)) ∧ Im (z = 1) (adv (absC M) = absC M') ∧ Im (z = 0) (absC M' = absC M))) := by
  obtain ⟨hI, hW⟩ := hJ
  have hF : Fr [18] M M := Fr.rf
  refine en_z (by decide +kernel) (fun ad => by exact Nat.le_of_ble_eq_true rfl) (fun D cy ad A p e s m args below meth c Q F hret => ?_)
  refine z_eq (ls' := [(0, .ref (ad 18)), (1, ii x0)]) rfl rfl rfl ?_
  refine z_aload_n F dX6_takeSign_0 rfl (q := 0) rfl ?_
  refine z_iload_n F dX6_takeSign_1 rfl (q := 1) rfl ?_
  refine zv_i (rest := []) F (kp_X6_isSign_18 l M ⟨hI, hW⟩ x0 (by omega) (by omega) (by omega)) cs_X6_93 (T := TX6) (N := 9) (ci := 6) rfl gs_18 (by decide) (by decide) rfl rfl rfl (Nat.le_of_ble_eq_true rfl) dX6_takeSign_2 (fun v1 M2 rv1 hI p3 => ?_)
  obtain ⟨hI, hW⟩ := hI
  obtain ⟨⟨av1, bv1⟩, rfl, xp3, yp3⟩ := p3
  refine z_istore_n F dX6_takeSign_5 rfl (by decide) (ls' := [(2, ii v1), (0, .ref (ad 18)), (1, ii x0)]) rfl ?_
  refine z_iload_n F dX6_takeSign_6 rfl (q := 0) rfl ?_
  refine z_if_eq (tgt := 14) F dX6_takeSign_7 (by decide +kernel) (by omega) (fun c4 => ?_) (fun c4 => ?_)
  · refine z_iload_n F dX6_takeSign_14 rfl (q := 0) rfl ?_
    exact hret _ _ 15 _ ⟨by omega, by omega⟩ ⟨hI, hW⟩ ⟨⟨by omega, by omega⟩, hF, (by omega), ⟨yp3, fun q => by exfalso; omega, fun q => rfl⟩⟩ dX6_takeSign_15
  · refine z_aload_n F dX6_takeSign_10 rfl (q := 1) rfl ?_
    refine zv_v (rest := []) F (kp_X6_advance_18 l M ⟨hI, hW⟩ (by omega)) cs_X6_42 (T := TX6) (N := 9) (ci := 6) rfl gs_18 (by decide) (by decide) rfl rfl rfl (Nat.le_of_ble_eq_true rfl) dX6_takeSign_11 (fun M5 hI p6 => ?_)
    obtain ⟨hI, hW⟩ := hI
    obtain ⟨fp6, xp6, yp6⟩ := p6
    have hF := hF.call fp6 (by decide)
    refine z_iload_n F dX6_takeSign_14 rfl (q := 0) rfl ?_
    exact hret _ _ 15 _ ⟨by omega, by omega⟩ ⟨hI, hW⟩ ⟨⟨by omega, by omega⟩, hF, (by omega), ⟨yp3, fun q => yp6 (by omega), fun q => by exfalso; omega⟩⟩ dX6_takeSign_15
