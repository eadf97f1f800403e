theorem dX2_strike_0 : decode cX2_strike 0 = .ok (.aload_n 0, 1) := by decide +kernel
theorem dX2_strike_1 : decode cX2_strike 1 = .ok (.iconst 0, 1) := by decide +kernel
theorem dX2_strike_2 : decode cX2_strike 2 = .ok (.putfield 25, 3) := by decide +kernel
theorem dX2_strike_5 : decode cX2_strike 5 = .ok (.return_, 1) := by decide +kernel
theorem dX6_endLine_0 : decode cX6_endLine 0 = .ok (.aload_n 0, 1) := by decide +kernel
theorem dX6_endLine_1 : decode cX6_endLine 1 = .ok (.bipush 59, 2) := by decide +kernel
theorem dX6_endLine_10 : decode cX6_endLine 10 = .ok (.dup, 1) := by decide +kernel
theorem dX6_endLine_11 : decode cX6_endLine 11 = .ok (.getfield 124, 3) := by decide +kernel
theorem dX6_endLine_14 : decode cX6_endLine 14 = .ok (.iconst 1, 1) := by decide +kernel
theorem dX6_endLine_15 : decode cX6_endLine 15 = .ok (.iadd, 1) := by decide +kernel
theorem dX6_endLine_16 : decode cX6_endLine 16 = .ok (.putfield 124, 3) := by decide +kernel
theorem dX6_endLine_19 : decode cX6_endLine 19 = .ok (.return_, 1) := by decide +kernel
theorem dX6_endLine_3 : decode cX6_endLine 3 = .ok (.invokevirtual 120, 3) := by decide +kernel
theorem dX6_endLine_6 : decode cX6_endLine 6 = .ok (.aload_n 0, 1) := by decide +kernel
theorem dX6_endLine_7 : decode cX6_endLine 7 = .ok (.getfield 12, 3) := by decide +kernel
theorem dX6_nameHere_0 : decode cX6_nameHere 0 = .ok (.aload_n 0, 1) := by decide +kernel
theorem dX6_nameHere_1 : decode cX6_nameHere 1 = .ok (.ldc_w 271, 3) := by decide +kernel
theorem dX6_nameHere_10 : decode cX6_nameHere 10 = .ok (.iconst (-1), 1) := by decide +kernel
theorem dX6_nameHere_101 : decode cX6_nameHere 101 = .ok (.ireturn, 1) := by decide +kernel
theorem dX6_nameHere_102 : decode cX6_nameHere 102 = .ok (.iconst 0, 1) := by decide +kernel
theorem dX6_nameHere_103 : decode cX6_nameHere 103 = .ok (.ireturn, 1) := by decide +kernel
theorem dX6_nameHere_11 : decode cX6_nameHere 11 = .ok (.ireturn, 1) := by decide +kernel
theorem dX6_nameHere_12 : decode cX6_nameHere 12 = .ok (.aload_n 0, 1) := by decide +kernel
theorem dX6_nameHere_13 : decode cX6_nameHere 13 = .ok (.ldc_w 273, 3) := by decide +kernel
theorem dX6_nameHere_16 : decode cX6_nameHere 16 = .ok (.invokevirtual 86, 3) := by decide +kernel
theorem dX6_nameHere_19 : decode cX6_nameHere 19 = .ok (.ifCond .eq 6, 3) := by decide +kernel
theorem dX6_nameHere_22 : decode cX6_nameHere 22 = .ok (.bipush (-2), 2) := by decide +kernel
theorem dX6_nameHere_24 : decode cX6_nameHere 24 = .ok (.ireturn, 1) := by decide +kernel
theorem dX6_nameHere_25 : decode cX6_nameHere 25 = .ok (.aload_n 0, 1) := by decide +kernel
theorem dX6_nameHere_26 : decode cX6_nameHere 26 = .ok (.ldc_w 275, 3) := by decide +kernel
theorem dX6_nameHere_29 : decode cX6_nameHere 29 = .ok (.invokevirtual 86, 3) := by decide +kernel
theorem dX6_nameHere_32 : decode cX6_nameHere 32 = .ok (.ifCond .eq 6, 3) := by decide +kernel
theorem dX6_nameHere_35 : decode cX6_nameHere 35 = .ok (.bipush (-3), 2) := by decide +kernel
theorem dX6_nameHere_37 : decode cX6_nameHere 37 = .ok (.ireturn, 1) := by decide +kernel
theorem dX6_nameHere_38 : decode cX6_nameHere 38 = .ok (.aload_n 0, 1) := by decide +kernel
theorem dX6_nameHere_39 : decode cX6_nameHere 39 = .ok (.ldc_w 277, 3) := by decide +kernel
theorem dX6_nameHere_4 : decode cX6_nameHere 4 = .ok (.invokevirtual 86, 3) := by decide +kernel
theorem dX6_nameHere_42 : decode cX6_nameHere 42 = .ok (.invokevirtual 86, 3) := by decide +kernel
theorem dX6_nameHere_45 : decode cX6_nameHere 45 = .ok (.ifCond .eq 6, 3) := by decide +kernel
theorem dX6_nameHere_48 : decode cX6_nameHere 48 = .ok (.bipush (-4), 2) := by decide +kernel
theorem dX6_nameHere_50 : decode cX6_nameHere 50 = .ok (.ireturn, 1) := by decide +kernel
theorem dX6_nameHere_51 : decode cX6_nameHere 51 = .ok (.aload_n 0, 1) := by decide +kernel
theorem dX6_nameHere_52 : decode cX6_nameHere 52 = .ok (.ldc_w 279, 3) := by decide +kernel
theorem dX6_nameHere_55 : decode cX6_nameHere 55 = .ok (.invokevirtual 86, 3) := by decide +kernel
theorem dX6_nameHere_58 : decode cX6_nameHere 58 = .ok (.ifCond .eq 6, 3) := by decide +kernel
theorem dX6_nameHere_61 : decode cX6_nameHere 61 = .ok (.bipush (-5), 2) := by decide +kernel
theorem dX6_nameHere_63 : decode cX6_nameHere 63 = .ok (.ireturn, 1) := by decide +kernel
theorem dX6_nameHere_64 : decode cX6_nameHere 64 = .ok (.aload_n 0, 1) := by decide +kernel
theorem dX6_nameHere_65 : decode cX6_nameHere 65 = .ok (.ldc_w 281, 3) := by decide +kernel
theorem dX6_nameHere_68 : decode cX6_nameHere 68 = .ok (.invokevirtual 86, 3) := by decide +kernel
theorem dX6_nameHere_7 : decode cX6_nameHere 7 = .ok (.ifCond .eq 5, 3) := by decide +kernel
theorem dX6_nameHere_71 : decode cX6_nameHere 71 = .ok (.ifCond .eq 6, 3) := by decide +kernel
theorem dX6_nameHere_74 : decode cX6_nameHere 74 = .ok (.bipush (-6), 2) := by decide +kernel
theorem dX6_nameHere_76 : decode cX6_nameHere 76 = .ok (.ireturn, 1) := by decide +kernel
theorem dX6_nameHere_77 : decode cX6_nameHere 77 = .ok (.aload_n 0, 1) := by decide +kernel
theorem dX6_nameHere_78 : decode cX6_nameHere 78 = .ok (.ldc_w 283, 3) := by decide +kernel
theorem dX6_nameHere_81 : decode cX6_nameHere 81 = .ok (.invokevirtual 86, 3) := by decide +kernel
theorem dX6_nameHere_84 : decode cX6_nameHere 84 = .ok (.ifCond .eq 6, 3) := by decide +kernel
theorem dX6_nameHere_87 : decode cX6_nameHere 87 = .ok (.bipush (-7), 2) := by decide +kernel
theorem dX6_nameHere_89 : decode cX6_nameHere 89 = .ok (.ireturn, 1) := by decide +kernel
theorem dX6_nameHere_90 : decode cX6_nameHere 90 = .ok (.aload_n 0, 1) := by decide +kernel
theorem dX6_nameHere_91 : decode cX6_nameHere 91 = .ok (.ldc 175, 2) := by decide +kernel
theorem dX6_nameHere_93 : decode cX6_nameHere 93 = .ok (.invokevirtual 86, 3) := by decide +kernel
theorem dX6_nameHere_96 : decode cX6_nameHere 96 = .ok (.ifCond .eq 6, 3) := by decide +kernel
theorem dX6_nameHere_99 : decode cX6_nameHere 99 = .ok (.bipush (-8), 2) := by decide +kernel
theorem dX6_readAtom_0 : decode cX6_readAtom 0 = .ok (.aload_n 0, 1) := by decide +kernel
theorem dX6_readAtom_1 : decode cX6_readAtom 1 = .ok (.invokevirtual 268, 3) := by decide +kernel
theorem dX6_readAtom_100 : decode cX6_readAtom 100 = .ok (.return_, 1) := by decide +kernel
theorem dX6_readAtom_11 : decode cX6_readAtom 11 = .ok (.ifCond .eq 27, 3) := by decide +kernel
theorem dX6_readAtom_14 : decode cX6_readAtom 14 = .ok (.aload_n 0, 1) := by decide +kernel
theorem dX6_readAtom_15 : decode cX6_readAtom 15 = .ok (.iload_n 1, 1) := by decide +kernel
theorem dX6_readAtom_16 : decode cX6_readAtom 16 = .ok (.invokevirtual 249, 3) := by decide +kernel
theorem dX6_readAtom_19 : decode cX6_readAtom 19 = .ok (.ifCond .eq 81, 3) := by decide +kernel
theorem dX6_readAtom_22 : decode cX6_readAtom 22 = .ok (.aload_n 0, 1) := by decide +kernel
theorem dX6_readAtom_23 : decode cX6_readAtom 23 = .ok (.iload_n 1, 1) := by decide +kernel
theorem dX6_readAtom_24 : decode cX6_readAtom 24 = .ok (.iconst 1, 1) := by decide +kernel
theorem dX6_readAtom_25 : decode cX6_readAtom 25 = .ok (.iadd, 1) := by decide +kernel
theorem dX6_readAtom_26 : decode cX6_readAtom 26 = .ok (.invokevirtual 253, 3) := by decide +kernel
theorem dX6_readAtom_29 : decode cX6_readAtom 29 = .ok (.aload_n 0, 1) := by decide +kernel
theorem dX6_readAtom_30 : decode cX6_readAtom 30 = .ok (.bipush 41, 2) := by decide +kernel
theorem dX6_readAtom_32 : decode cX6_readAtom 32 = .ok (.invokevirtual 120, 3) := by decide +kernel
theorem dX6_readAtom_35 : decode cX6_readAtom 35 = .ok (.goto 65, 3) := by decide +kernel
theorem dX6_readAtom_38 : decode cX6_readAtom 38 = .ok (.iload_n 2, 1) := by decide +kernel
theorem dX6_readAtom_39 : decode cX6_readAtom 39 = .ok (.ifCond .eq 21, 3) := by decide +kernel
theorem dX6_readAtom_4 : decode cX6_readAtom 4 = .ok (.istore_n 2, 1) := by decide +kernel
theorem dX6_readAtom_42 : decode cX6_readAtom 42 = .ok (.aload_n 0, 1) := by decide +kernel
theorem dX6_readAtom_43 : decode cX6_readAtom 43 = .ok (.getfield 12, 3) := by decide +kernel
theorem dX6_readAtom_46 : decode cX6_readAtom 46 = .ok (.getfield 152, 3) := by decide +kernel
theorem dX6_readAtom_49 : decode cX6_readAtom 49 = .ok (.iload_n 2, 1) := by decide +kernel
theorem dX6_readAtom_5 : decode cX6_readAtom 5 = .ok (.aload_n 0, 1) := by decide +kernel
theorem dX6_readAtom_50 : decode cX6_readAtom 50 = .ok (.invokevirtual 239, 3) := by decide +kernel
theorem dX6_readAtom_53 : decode cX6_readAtom 53 = .ok (.aload_n 0, 1) := by decide +kernel
theorem dX6_readAtom_54 : decode cX6_readAtom 54 = .ok (.invokevirtual 42, 3) := by decide +kernel
theorem dX6_readAtom_57 : decode cX6_readAtom 57 = .ok (.goto 43, 3) := by decide +kernel
theorem dX6_readAtom_6 : decode cX6_readAtom 6 = .ok (.bipush 40, 2) := by decide +kernel
theorem dX6_readAtom_60 : decode cX6_readAtom 60 = .ok (.aload_n 0, 1) := by decide +kernel
theorem dX6_readAtom_61 : decode cX6_readAtom 61 = .ok (.getfield 36, 3) := by decide +kernel
theorem dX6_readAtom_64 : decode cX6_readAtom 64 = .ok (.ifCond .ne 32, 3) := by decide +kernel
theorem dX6_readAtom_67 : decode cX6_readAtom 67 = .ok (.aload_n 0, 1) := by decide +kernel
theorem dX6_readAtom_68 : decode cX6_readAtom 68 = .ok (.getfield 48, 3) := by decide +kernel
theorem dX6_readAtom_71 : decode cX6_readAtom 71 = .ok (.iconst 2, 1) := by decide +kernel
theorem dX6_readAtom_72 : decode cX6_readAtom 72 = .ok (.if_icmp .ne 24, 3) := by decide +kernel
theorem dX6_readAtom_75 : decode cX6_readAtom 75 = .ok (.aload_n 0, 1) := by decide +kernel
theorem dX6_readAtom_76 : decode cX6_readAtom 76 = .ok (.getfield 12, 3) := by decide +kernel
theorem dX6_readAtom_79 : decode cX6_readAtom 79 = .ok (.getfield 152, 3) := by decide +kernel
theorem dX6_readAtom_8 : decode cX6_readAtom 8 = .ok (.invokevirtual 93, 3) := by decide +kernel
theorem dX6_readAtom_82 : decode cX6_readAtom 82 = .ok (.aload_n 0, 1) := by decide +kernel
theorem dX6_readAtom_83 : decode cX6_readAtom 83 = .ok (.getfield 60, 3) := by decide +kernel
theorem dX6_readAtom_86 : decode cX6_readAtom 86 = .ok (.invokevirtual 239, 3) := by decide +kernel
theorem dX6_readAtom_89 : decode cX6_readAtom 89 = .ok (.aload_n 0, 1) := by decide +kernel
theorem dX6_readAtom_90 : decode cX6_readAtom 90 = .ok (.invokevirtual 42, 3) := by decide +kernel
theorem dX6_readAtom_93 : decode cX6_readAtom 93 = .ok (.goto 7, 3) := by decide +kernel
theorem dX6_readAtom_96 : decode cX6_readAtom 96 = .ok (.aload_n 0, 1) := by decide +kernel
theorem dX6_readAtom_97 : decode cX6_readAtom 97 = .ok (.invokevirtual 90, 3) := by decide +kernel
theorem dX6_readSum_0 : decode cX6_readSum 0 = .ok (.aload_n 0, 1) := by decide +kernel
theorem dX6_readSum_1 : decode cX6_readSum 1 = .ok (.iload_n 1, 1) := by decide +kernel
theorem dX6_readSum_11 : decode cX6_readSum 11 = .ok (.if_icmp .ge 64, 3) := by decide +kernel
theorem dX6_readSum_14 : decode cX6_readSum 14 = .ok (.aload_n 0, 1) := by decide +kernel
theorem dX6_readSum_15 : decode cX6_readSum 15 = .ok (.bipush 43, 2) := by decide +kernel
theorem dX6_readSum_17 : decode cX6_readSum 17 = .ok (.invokevirtual 93, 3) := by decide +kernel
theorem dX6_readSum_2 : decode cX6_readSum 2 = .ok (.invokevirtual 259, 3) := by decide +kernel
theorem dX6_readSum_20 : decode cX6_readSum 20 = .ok (.ifCond .ne 12, 3) := by decide +kernel
theorem dX6_readSum_23 : decode cX6_readSum 23 = .ok (.aload_n 0, 1) := by decide +kernel
theorem dX6_readSum_24 : decode cX6_readSum 24 = .ok (.bipush 45, 2) := by decide +kernel
theorem dX6_readSum_26 : decode cX6_readSum 26 = .ok (.invokevirtual 93, 3) := by decide +kernel
theorem dX6_readSum_29 : decode cX6_readSum 29 = .ok (.ifCond .eq 46, 3) := by decide +kernel
theorem dX6_readSum_32 : decode cX6_readSum 32 = .ok (.aload_n 0, 1) := by decide +kernel
theorem dX6_readSum_33 : decode cX6_readSum 33 = .ok (.bipush 43, 2) := by decide +kernel
theorem dX6_readSum_35 : decode cX6_readSum 35 = .ok (.invokevirtual 93, 3) := by decide +kernel
theorem dX6_readSum_38 : decode cX6_readSum 38 = .ok (.ifCond .eq 8, 3) := by decide +kernel
theorem dX6_readSum_41 : decode cX6_readSum 41 = .ok (.bipush (-10), 2) := by decide +kernel
theorem dX6_readSum_43 : decode cX6_readSum 43 = .ok (.goto 5, 3) := by decide +kernel
theorem dX6_readSum_46 : decode cX6_readSum 46 = .ok (.bipush (-11), 2) := by decide +kernel
theorem dX6_readSum_48 : decode cX6_readSum 48 = .ok (.istore_n 3, 1) := by decide +kernel
theorem dX6_readSum_49 : decode cX6_readSum 49 = .ok (.aload_n 0, 1) := by decide +kernel
theorem dX6_readSum_5 : decode cX6_readSum 5 = .ok (.iconst 0, 1) := by decide +kernel
theorem dX6_readSum_50 : decode cX6_readSum 50 = .ok (.invokevirtual 42, 3) := by decide +kernel
theorem dX6_readSum_53 : decode cX6_readSum 53 = .ok (.aload_n 0, 1) := by decide +kernel
theorem dX6_readSum_54 : decode cX6_readSum 54 = .ok (.iload_n 1, 1) := by decide +kernel
theorem dX6_readSum_55 : decode cX6_readSum 55 = .ok (.invokevirtual 259, 3) := by decide +kernel
theorem dX6_readSum_58 : decode cX6_readSum 58 = .ok (.aload_n 0, 1) := by decide +kernel
theorem dX6_readSum_59 : decode cX6_readSum 59 = .ok (.getfield 12, 3) := by decide +kernel
theorem dX6_readSum_6 : decode cX6_readSum 6 = .ok (.istore_n 2, 1) := by decide +kernel
theorem dX6_readSum_62 : decode cX6_readSum 62 = .ok (.getfield 152, 3) := by decide +kernel
theorem dX6_readSum_65 : decode cX6_readSum 65 = .ok (.iload_n 3, 1) := by decide +kernel
theorem dX6_readSum_66 : decode cX6_readSum 66 = .ok (.invokevirtual 239, 3) := by decide +kernel
theorem dX6_readSum_69 : decode cX6_readSum 69 = .ok (.iinc 2 1, 3) := by decide +kernel
theorem dX6_readSum_7 : decode cX6_readSum 7 = .ok (.iload_n 2, 1) := by decide +kernel
theorem dX6_readSum_72 : decode cX6_readSum 72 = .ok (.goto (-65), 3) := by decide +kernel
theorem dX6_readSum_75 : decode cX6_readSum 75 = .ok (.return_, 1) := by decide +kernel
theorem dX6_readSum_8 : decode cX6_readSum 8 = .ok (.sipush 900, 3) := by decide +kernel
theorem dX6_readTerm_0 : decode cX6_readTerm 0 = .ok (.aload_n 0, 1) := by decide +kernel
theorem dX6_readTerm_1 : decode cX6_readTerm 1 = .ok (.iload_n 1, 1) := by decide +kernel
theorem dX6_readTerm_11 : decode cX6_readTerm 11 = .ok (.if_icmp .ge 35, 3) := by decide +kernel
theorem dX6_readTerm_14 : decode cX6_readTerm 14 = .ok (.aload_n 0, 1) := by decide +kernel
theorem dX6_readTerm_15 : decode cX6_readTerm 15 = .ok (.bipush 42, 2) := by decide +kernel
theorem dX6_readTerm_17 : decode cX6_readTerm 17 = .ok (.invokevirtual 265, 3) := by decide +kernel
theorem dX6_readTerm_2 : decode cX6_readTerm 2 = .ok (.invokevirtual 262, 3) := by decide +kernel
theorem dX6_readTerm_20 : decode cX6_readTerm 20 = .ok (.ifCond .eq 26, 3) := by decide +kernel
theorem dX6_readTerm_23 : decode cX6_readTerm 23 = .ok (.aload_n 0, 1) := by decide +kernel
theorem dX6_readTerm_24 : decode cX6_readTerm 24 = .ok (.iload_n 1, 1) := by decide +kernel
theorem dX6_readTerm_25 : decode cX6_readTerm 25 = .ok (.invokevirtual 262, 3) := by decide +kernel
theorem dX6_readTerm_28 : decode cX6_readTerm 28 = .ok (.aload_n 0, 1) := by decide +kernel
theorem dX6_readTerm_29 : decode cX6_readTerm 29 = .ok (.getfield 12, 3) := by decide +kernel
theorem dX6_readTerm_32 : decode cX6_readTerm 32 = .ok (.getfield 152, 3) := by decide +kernel
theorem dX6_readTerm_35 : decode cX6_readTerm 35 = .ok (.bipush (-12), 2) := by decide +kernel
theorem dX6_readTerm_37 : decode cX6_readTerm 37 = .ok (.invokevirtual 239, 3) := by decide +kernel
theorem dX6_readTerm_40 : decode cX6_readTerm 40 = .ok (.iinc 2 1, 3) := by decide +kernel
theorem dX6_readTerm_43 : decode cX6_readTerm 43 = .ok (.goto (-36), 3) := by decide +kernel
theorem dX6_readTerm_46 : decode cX6_readTerm 46 = .ok (.return_, 1) := by decide +kernel
theorem dX6_readTerm_5 : decode cX6_readTerm 5 = .ok (.iconst 0, 1) := by decide +kernel
theorem dX6_readTerm_6 : decode cX6_readTerm 6 = .ok (.istore_n 2, 1) := by decide +kernel
theorem dX6_readTerm_7 : decode cX6_readTerm 7 = .ok (.iload_n 2, 1) := by decide +kernel
theorem dX6_readTerm_8 : decode cX6_readTerm 8 = .ok (.sipush 900, 3) := by decide +kernel
theorem dX6_takeSign_0 : decode cX6_takeSign 0 = .ok (.aload_n 0, 1) := by decide +kernel
theorem dX6_takeSign_1 : decode cX6_takeSign 1 = .ok (.iload_n 1, 1) := by decide +kernel
theorem dX6_takeSign_10 : decode cX6_takeSign 10 = .ok (.aload_n 0, 1) := by decide +kernel
theorem dX6_takeSign_11 : decode cX6_takeSign 11 = .ok (.invokevirtual 42, 3) := by decide +kernel
theorem dX6_takeSign_14 : decode cX6_takeSign 14 = .ok (.iload_n 2, 1) := by decide +kernel
theorem dX6_takeSign_15 : decode cX6_takeSign 15 = .ok (.ireturn, 1) := by decide +kernel
theorem dX6_takeSign_2 : decode cX6_takeSign 2 = .ok (.invokevirtual 93, 3) := by decide +kernel
theorem dX6_takeSign_5 : decode cX6_takeSign 5 = .ok (.istore_n 2, 1) := by decide +kernel
theorem dX6_takeSign_6 : decode cX6_takeSign 6 = .ok (.iload_n 2, 1) := by decide +kernel
theorem dX6_takeSign_7 : decode cX6_takeSign 7 = .ok (.ifCond .eq 7, 3) := by decide +kernel
set_option maxHeartbeats 4000000 in
set_option maxRecDepth 4000 in
theorem kp_X6_readSum_18 (l : Launch) (nr : Nat) (ih : RdX l nr) : ∀ (M : Mem) (hJ : Iw M) (x0 : Int) (hx0a : 0 ≤ x0) (hx0b : x0 ≤ 6) (hp0 : M 18 6 ≤ M 18 5 ∧ M 18 5 ≤ M 18 4) (hmu : (6 - x0) * 8 + 3 < ((nr + 1 : Nat) : Int)), CV l yX6_readSum cX6_readSum 4 none (12 + (nr + 1)) (fun ad => [.ref (ad 18), ii x0]) M (fun M' => Fr [18, 31, 32] M M' ∧ (M' 18 4 = M 18 4 ∧ M' 18 6 ≤ M' 18 5 ∧ M' 18 5 ≤ M' 18 4)) := by
  intro M hJ x0 hx0a hx0b hp0 hmu
  obtain ⟨hI, hW⟩ := hJ
  have hF : Fr [18, 31, 32] M M := Fr.rf
  refine en_v (by decide +kernel) (fun ad => by exact Nat.le_of_ble_eq_true rfl) (fun D cy ad A p e s m args below meth c Q F hret => ?_)
  refine z_eq (ls' := [(0, .ref (ad 18)), (1, ii x0)]) rfl rfl rfl ?_
  refine z_aload_n F dX6_readSum_0 rfl (q := 0) rfl ?_
  refine z_iload_n F dX6_readSum_1 rfl (q := 1) rfl ?_
  refine zv_v (rest := []) F (ih.2.2.2.2.1 M ⟨hI, hW⟩ x0 (by omega) (by omega) (by omega) (by omega)) cs_X6_259 (T := TX6) (N := 9) (ci := 6) rfl gs_18 (by omega) (by decide) rfl rfl rfl (Nat.le_of_ble_eq_true rfl) dX6_readSum_2 (fun M1 hI p2 => ?_)
  obtain ⟨hI, hW⟩ := hI
  obtain ⟨fp2, xp2⟩ := p2
  have hF := hF.call fp2 (by decide)
  refine z_iconst F dX6_readSum_5 ?_
  refine z_istore_n F dX6_readSum_6 rfl (by decide) (ls' := [(2, ii 0), (0, .ref (ad 18)), (1, ii x0)]) rfl ?_
  refine z_loc [1, 2, 0] (ls' := [(0, .ref (ad 18)), (1, ii x0), (2, ii 0)]) rfl ?_
  suffices key7 : ∀ (n : Nat) (y4 : Int) (M3 : Mem), Inv M3 → WFk M3 → Fr [18, 31, 32] M M3 → 0 ≤ y4 → y4 ≤ 900 → (M3 18 4 = M 18 4) → (M3 18 6 ≤ M3 18 5 ∧ M3 18 5 ≤ M3 18 4) → 900 - y4 < (n : Int) → Z D cy ad p l e (RMh (12 + (nr + 1))) s m args below meth c A 4 0 0 Q 7 [(0, .ref (ad 18)), (1, ii x0), (2, ii y4)] [] M3 from key7 901 0 M1 hI hW hF (by omega) (by omega) (by omega) (by omega) (by omega)
  intro n7
  induction n7 with
  | zero => intro y4 M3 hI hW hF ay4 by4 i7_0 i7_1 hn7; exfalso; omega
  | succ n7 ih7 =>
    intro y4 M3 hI hW hF ay4 by4 i7_0 i7_1 hn7
    refine z_iload_n F dX6_readSum_7 rfl (q := 2) rfl ?_
    refine z_sipush F dX6_readSum_8 (by decide +kernel) ?_
    refine z_icmp_ge (tgt := 75) F dX6_readSum_11 (by decide +kernel) (by omega) (by omega) (fun c5 => ?_) (fun c5 => ?_)
    · exact hret _ 75 _ ⟨hI, hW⟩ ⟨hF, (by omega)⟩ dX6_readSum_75
    · refine z_aload_n F dX6_readSum_14 rfl (q := 0) rfl ?_
      refine z_bipush F dX6_readSum_15 (by decide +kernel) ?_
      refine zv_i (rest := []) F (kp_X6_isSign_18 l M3 ⟨hI, hW⟩ 43 (by omega) (by omega)) cs_X6_93 (T := TX6) (N := 9) (ci := 6) rfl gs_18 (by omega) (by decide) rfl rfl rfl (Nat.le_of_ble_eq_true rfl) dX6_readSum_17 (fun v6 M7 rv6 hI p8 => ?_)
      obtain ⟨hI, hW⟩ := hI
      obtain ⟨⟨av6, bv6⟩, rfl⟩ := p8
      refine z_if_ne (tgt := 32) F dX6_readSum_20 (by decide +kernel) (by omega) (fun c9 => ?_) (fun c9 => ?_)
      · refine z_aload_n F dX6_readSum_32 rfl (q := 0) rfl ?_
        refine z_bipush F dX6_readSum_33 (by decide +kernel) ?_
        refine zv_i (rest := []) F (kp_X6_isSign_18 l M3 ⟨hI, hW⟩ 43 (by omega) (by omega)) cs_X6_93 (T := TX6) (N := 9) (ci := 6) rfl gs_18 (by omega) (by decide) rfl rfl rfl (Nat.le_of_ble_eq_true rfl) dX6_readSum_35 (fun v10 M11 rv10 hI p12 => ?_)
        obtain ⟨hI, hW⟩ := hI
        obtain ⟨⟨av10, bv10⟩, rfl⟩ := p12
        refine z_if_eq (tgt := 46) F dX6_readSum_38 (by decide +kernel) (by omega) (fun c13 => ?_) (fun c13 => ?_)
        · refine z_bipush F dX6_readSum_46 (by decide +kernel) ?_
          refine z_istore_n F dX6_readSum_48 rfl (by decide) (ls' := [(3, ii (-11)), (0, .ref (ad 18)), (1, ii x0), (2, ii y4)]) rfl ?_
          refine z_aload_n F dX6_readSum_49 rfl (q := 1) rfl ?_
          refine zv_v (rest := []) F (kp_X6_advance_18 l M3 ⟨hI, hW⟩ (by omega)) cs_X6_42 (T := TX6) (N := 9) (ci := 6) rfl gs_18 (by omega) (by decide) rfl rfl rfl (Nat.le_of_ble_eq_true rfl) dX6_readSum_50 (fun M14 hI p15 => ?_)
          obtain ⟨hI, hW⟩ := hI
          obtain ⟨fp15, xp15⟩ := p15
          have hF := hF.call fp15 (by decide)
          refine z_aload_n F dX6_readSum_53 rfl (q := 1) rfl ?_
          refine z_iload_n F dX6_readSum_54 rfl (q := 2) rfl ?_
          refine zv_v (rest := []) F (ih.2.2.2.2.1 M14 ⟨hI, hW⟩ x0 (by omega) (by omega) (by omega) (by omega)) cs_X6_259 (T := TX6) (N := 9) (ci := 6) rfl gs_18 (by omega) (by decide) rfl rfl rfl (Nat.le_of_ble_eq_true rfl) dX6_readSum_55 (fun M16 hI p17 => ?_)
          obtain ⟨hI, hW⟩ := hI
          obtain ⟨fp17, xp17⟩ := p17
          have hF := hF.call fp17 (by decide)
          refine z_aload_n F dX6_readSum_58 rfl (q := 1) rfl ?_
          refine rf_X6_12 F gs_18 rfl dX6_readSum_59 ?_
          refine rf_X6_152 F gs_19 rfl dX6_readSum_62 ?_
          refine z_iload_n F dX6_readSum_65 rfl (q := 0) rfl ?_
          refine zv_v (rest := []) F (k_X2_append_31 l M16 ⟨hI, hW⟩ (-11) (by omega) (by omega)) cs_X6_239 (T := TX2) (N := 5) (ci := 2) rfl gs_31 (by omega) (by decide) rfl rfl rfl (Nat.le_of_ble_eq_true rfl) dX6_readSum_66 (fun M18 hI p19 => ?_)
          obtain ⟨hI, hW⟩ := hI
          have fp19 := p19
          have hF := hF.call fp19 (by decide)
          have tM18_18_1 : M18 18 1 = M16 18 1 := fp19.at (by decide)
          have tM18_18_4 : M18 18 4 = M16 18 4 := fp19.at (by decide)
          have tM18_18_5 : M18 18 5 = M16 18 5 := fp19.at (by decide)
          have tM18_18_6 : M18 18 6 = M16 18 6 := fp19.at (by decide)
          refine z_iincN F dX6_readSum_69 (q := 3) rfl (by decide) (fun v20 ev20 => ?_)
          refine z_eq (ls' := [(2, ii v20), (3, ii (-11)), (0, .ref (ad 18)), (1, ii x0)]) rfl rfl rfl ?_
          refine z_goto (tgt := 7) F dX6_readSum_72 (by decide +kernel) ?_
          refine z_loc [2, 3, 0] (ls' := [(0, .ref (ad 18)), (1, ii x0), (2, ii v20)]) rfl ?_
          exact ih7 v20 M18 hI hW hF (by omega) (by omega) (by omega) (by omega) (by omega)
        · refine z_bipush F dX6_readSum_41 (by decide +kernel) ?_
          refine z_goto (tgt := 48) F dX6_readSum_43 (by decide +kernel) ?_
          refine z_istore_n F dX6_readSum_48 rfl (by decide) (ls' := [(3, ii (-10)), (0, .ref (ad 18)), (1, ii x0), (2, ii y4)]) rfl ?_
          refine z_aload_n F dX6_readSum_49 rfl (q := 1) rfl ?_
          refine zv_v (rest := []) F (kp_X6_advance_18 l M3 ⟨hI, hW⟩ (by omega)) cs_X6_42 (T := TX6) (N := 9) (ci := 6) rfl gs_18 (by omega) (by decide) rfl rfl rfl (Nat.le_of_ble_eq_true rfl) dX6_readSum_50 (fun M21 hI p22 => ?_)
          obtain ⟨hI, hW⟩ := hI
          obtain ⟨fp22, xp22⟩ := p22
          have hF := hF.call fp22 (by decide)
          refine z_aload_n F dX6_readSum_53 rfl (q := 1) rfl ?_
          refine z_iload_n F dX6_readSum_54 rfl (q := 2) rfl ?_
          refine zv_v (rest := []) F (ih.2.2.2.2.1 M21 ⟨hI, hW⟩ x0 (by omega) (by omega) (by omega) (by omega)) cs_X6_259 (T := TX6) (N := 9) (ci := 6) rfl gs_18 (by omega) (by decide) rfl rfl rfl (Nat.le_of_ble_eq_true rfl) dX6_readSum_55 (fun M23 hI p24 => ?_)
          obtain ⟨hI, hW⟩ := hI
          obtain ⟨fp24, xp24⟩ := p24
          have hF := hF.call fp24 (by decide)
          refine z_aload_n F dX6_readSum_58 rfl (q := 1) rfl ?_
          refine rf_X6_12 F gs_18 rfl dX6_readSum_59 ?_
          refine rf_X6_152 F gs_19 rfl dX6_readSum_62 ?_
          refine z_iload_n F dX6_readSum_65 rfl (q := 0) rfl ?_
          refine zv_v (rest := []) F (k_X2_append_31 l M23 ⟨hI, hW⟩ (-10) (by omega) (by omega)) cs_X6_239 (T := TX2) (N := 5) (ci := 2) rfl gs_31 (by omega) (by decide) rfl rfl rfl (Nat.le_of_ble_eq_true rfl) dX6_readSum_66 (fun M25 hI p26 => ?_)
          obtain ⟨hI, hW⟩ := hI
          have fp26 := p26
          have hF := hF.call fp26 (by decide)
          have tM25_18_1 : M25 18 1 = M23 18 1 := fp26.at (by decide)
          have tM25_18_4 : M25 18 4 = M23 18 4 := fp26.at (by decide)
          have tM25_18_5 : M25 18 5 = M23 18 5 := fp26.at (by decide)
          have tM25_18_6 : M25 18 6 = M23 18 6 := fp26.at (by decide)
          refine z_iincN F dX6_readSum_69 (q := 3) rfl (by decide) (fun v27 ev27 => ?_)
          refine z_eq (ls' := [(2, ii v27), (3, ii (-10)), (0, .ref (ad 18)), (1, ii x0)]) rfl rfl rfl ?_
          refine z_goto (tgt := 7) F dX6_readSum_72 (by decide +kernel) ?_
          refine z_loc [2, 3, 0] (ls' := [(0, .ref (ad 18)), (1, ii x0), (2, ii v27)]) rfl ?_
          exact ih7 v27 M25 hI hW hF (by omega) (by omega) (by omega) (by omega) (by omega)
      · refine z_aload_n F dX6_readSum_23 rfl (q := 0) rfl ?_
        refine z_bipush F dX6_readSum_24 (by decide +kernel) ?_
        refine zv_i (rest := []) F (kp_X6_isSign_18 l M3 ⟨hI, hW⟩ 45 (by omega) (by omega)) cs_X6_93 (T := TX6) (N := 9) (ci := 6) rfl gs_18 (by omega) (by decide) rfl rfl rfl (Nat.le_of_ble_eq_true rfl) dX6_readSum_26 (fun v28 M29 rv28 hI p30 => ?_)
        obtain ⟨hI, hW⟩ := hI
        obtain ⟨⟨av28, bv28⟩, rfl⟩ := p30
        refine z_if_eq (tgt := 75) F dX6_readSum_29 (by decide +kernel) (by omega) (fun c31 => ?_) (fun c31 => ?_)
        · exact hret _ 75 _ ⟨hI, hW⟩ ⟨hF, (by omega)⟩ dX6_readSum_75
        · refine z_aload_n F dX6_readSum_32 rfl (q := 0) rfl ?_
          refine z_bipush F dX6_readSum_33 (by decide +kernel) ?_
          refine zv_i (rest := []) F (kp_X6_isSign_18 l M3 ⟨hI, hW⟩ 43 (by omega) (by omega)) cs_X6_93 (T := TX6) (N := 9) (ci := 6) rfl gs_18 (by omega) (by decide) rfl rfl rfl (Nat.le_of_ble_eq_true rfl) dX6_readSum_35 (fun v32 M33 rv32 hI p34 => ?_)
          obtain ⟨hI, hW⟩ := hI
          obtain ⟨⟨av32, bv32⟩, rfl⟩ := p34
          refine z_if_eq (tgt := 46) F dX6_readSum_38 (by decide +kernel) (by omega) (fun c35 => ?_) (fun c35 => ?_)
          · refine z_bipush F dX6_readSum_46 (by decide +kernel) ?_
            refine z_istore_n F dX6_readSum_48 rfl (by decide) (ls' := [(3, ii (-11)), (0, .ref (ad 18)), (1, ii x0), (2, ii y4)]) rfl ?_
            refine z_aload_n F dX6_readSum_49 rfl (q := 1) rfl ?_
            refine zv_v (rest := []) F (kp_X6_advance_18 l M3 ⟨hI, hW⟩ (by omega)) cs_X6_42 (T := TX6) (N := 9) (ci := 6) rfl gs_18 (by omega) (by decide) rfl rfl rfl (Nat.le_of_ble_eq_true rfl) dX6_readSum_50 (fun M36 hI p37 => ?_)
            obtain ⟨hI, hW⟩ := hI
            obtain ⟨fp37, xp37⟩ := p37
            have hF := hF.call fp37 (by decide)
            refine z_aload_n F dX6_readSum_53 rfl (q := 1) rfl ?_
            refine z_iload_n F dX6_readSum_54 rfl (q := 2) rfl ?_
            refine zv_v (rest := []) F (ih.2.2.2.2.1 M36 ⟨hI, hW⟩ x0 (by omega) (by omega) (by omega) (by omega)) cs_X6_259 (T := TX6) (N := 9) (ci := 6) rfl gs_18 (by omega) (by decide) rfl rfl rfl (Nat.le_of_ble_eq_true rfl) dX6_readSum_55 (fun M38 hI p39 => ?_)
            obtain ⟨hI, hW⟩ := hI
            obtain ⟨fp39, xp39⟩ := p39
            have hF := hF.call fp39 (by decide)
            refine z_aload_n F dX6_readSum_58 rfl (q := 1) rfl ?_
            refine rf_X6_12 F gs_18 rfl dX6_readSum_59 ?_
            refine rf_X6_152 F gs_19 rfl dX6_readSum_62 ?_
            refine z_iload_n F dX6_readSum_65 rfl (q := 0) rfl ?_
            refine zv_v (rest := []) F (k_X2_append_31 l M38 ⟨hI, hW⟩ (-11) (by omega) (by omega)) cs_X6_239 (T := TX2) (N := 5) (ci := 2) rfl gs_31 (by omega) (by decide) rfl rfl rfl (Nat.le_of_ble_eq_true rfl) dX6_readSum_66 (fun M40 hI p41 => ?_)
            obtain ⟨hI, hW⟩ := hI
            have fp41 := p41
            have hF := hF.call fp41 (by decide)
            have tM40_18_1 : M40 18 1 = M38 18 1 := fp41.at (by decide)
            have tM40_18_4 : M40 18 4 = M38 18 4 := fp41.at (by decide)
            have tM40_18_5 : M40 18 5 = M38 18 5 := fp41.at (by decide)
            have tM40_18_6 : M40 18 6 = M38 18 6 := fp41.at (by decide)
            refine z_iincN F dX6_readSum_69 (q := 3) rfl (by decide) (fun v42 ev42 => ?_)
            refine z_eq (ls' := [(2, ii v42), (3, ii (-11)), (0, .ref (ad 18)), (1, ii x0)]) rfl rfl rfl ?_
            refine z_goto (tgt := 7) F dX6_readSum_72 (by decide +kernel) ?_
            refine z_loc [2, 3, 0] (ls' := [(0, .ref (ad 18)), (1, ii x0), (2, ii v42)]) rfl ?_
            exact ih7 v42 M40 hI hW hF (by omega) (by omega) (by omega) (by omega) (by omega)
          · refine z_bipush F dX6_readSum_41 (by decide +kernel) ?_
            refine z_goto (tgt := 48) F dX6_readSum_43 (by decide +kernel) ?_
            refine z_istore_n F dX6_readSum_48 rfl (by decide) (ls' := [(3, ii (-10)), (0, .ref (ad 18)), (1, ii x0), (2, ii y4)]) rfl ?_
            refine z_aload_n F dX6_readSum_49 rfl (q := 1) rfl ?_
            refine zv_v (rest := []) F (kp_X6_advance_18 l M3 ⟨hI, hW⟩ (by omega)) cs_X6_42 (T := TX6) (N := 9) (ci := 6) rfl gs_18 (by omega) (by decide) rfl rfl rfl (Nat.le_of_ble_eq_true rfl) dX6_readSum_50 (fun M43 hI p44 => ?_)
            obtain ⟨hI, hW⟩ := hI
            obtain ⟨fp44, xp44⟩ := p44
            have hF := hF.call fp44 (by decide)
            refine z_aload_n F dX6_readSum_53 rfl (q := 1) rfl ?_
            refine z_iload_n F dX6_readSum_54 rfl (q := 2) rfl ?_
            refine zv_v (rest := []) F (ih.2.2.2.2.1 M43 ⟨hI, hW⟩ x0 (by omega) (by omega) (by omega) (by omega)) cs_X6_259 (T := TX6) (N := 9) (ci := 6) rfl gs_18 (by omega) (by decide) rfl rfl rfl (Nat.le_of_ble_eq_true rfl) dX6_readSum_55 (fun M45 hI p46 => ?_)
            obtain ⟨hI, hW⟩ := hI
            obtain ⟨fp46, xp46⟩ := p46
            have hF := hF.call fp46 (by decide)
            refine z_aload_n F dX6_readSum_58 rfl (q := 1) rfl ?_
            refine rf_X6_12 F gs_18 rfl dX6_readSum_59 ?_
            refine rf_X6_152 F gs_19 rfl dX6_readSum_62 ?_
            refine z_iload_n F dX6_readSum_65 rfl (q := 0) rfl ?_
            refine zv_v (rest := []) F (k_X2_append_31 l M45 ⟨hI, hW⟩ (-10) (by omega) (by omega)) cs_X6_239 (T := TX2) (N := 5) (ci := 2) rfl gs_31 (by omega) (by decide) rfl rfl rfl (Nat.le_of_ble_eq_true rfl) dX6_readSum_66 (fun M47 hI p48 => ?_)
            obtain ⟨hI, hW⟩ := hI
            have fp48 := p48
            have hF := hF.call fp48 (by decide)
            have tM47_18_1 : M47 18 1 = M45 18 1 := fp48.at (by decide)
            have tM47_18_4 : M47 18 4 = M45 18 4 := fp48.at (by decide)
            have tM47_18_5 : M47 18 5 = M45 18 5 := fp48.at (by decide)
            have tM47_18_6 : M47 18 6 = M45 18 6 := fp48.at (by decide)
            refine z_iincN F dX6_readSum_69 (q := 3) rfl (by decide) (fun v49 ev49 => ?_)
            refine z_eq (ls' := [(2, ii v49), (3, ii (-10)), (0, .ref (ad 18)), (1, ii x0)]) rfl rfl rfl ?_
            refine z_goto (tgt := 7) F dX6_readSum_72 (by decide +kernel) ?_
            refine z_loc [2, 3, 0] (ls' := [(0, .ref (ad 18)), (1, ii x0), (2, ii v49)]) rfl ?_
            exact ih7 v49 M47 hI hW hF (by omega) (by omega) (by omega) (by omega) (by omega)
set_option maxHeartbeats 4000000 in
set_option maxRecDepth 4000 in
theorem kp_X6_takeSign_18 (l : Launch) (M : Mem) (hJ : Iw M) (x0 : Int) (hx0a : (-2147483648) ≤ x0) (hx0b : x0 ≤ 2147483647) (hp0 : M 18 6 ≤ M 18 5 ∧ M 18 5 ≤ M 18 4) : CI l yX6_takeSign cX6_takeSign 3 (some .boolean) 7 (fun ad => [.ref (ad 18), ii x0]) M (fun z M' => (0 ≤ z ∧ z ≤ 1) ∧ Fr [18] M M' ∧ (M' 18 4 = M 18 4 ∧ M' 18 6 ≤ M' 18 5 ∧ M' 18 5 ≤ M' 18 4 ∧ M' 18 1 = M 18 1)) := by
  obtain ⟨hI, hW⟩ := hJ
  have hF : Fr [18] M M := Fr.rf
  refine en_z (by decide +kernel) (fun ad => by exact Nat.le_of_ble_eq_true rfl) (fun D cy ad A p e s m args below meth c Q F hret => ?_)
  refine z_eq (ls' := [(0, .ref (ad 18)), (1, ii x0)]) rfl rfl rfl ?_
  refine z_aload_n F dX6_takeSign_0 rfl (q := 0) rfl ?_
  refine z_iload_n F dX6_takeSign_1 rfl (q := 1) rfl ?_
  refine zv_i (rest := []) F (kp_X6_isSign_18 l M ⟨hI, hW⟩ x0 (by omega) (by omega)) cs_X6_93 (T := TX6) (N := 9) (ci := 6) rfl gs_18 (by decide) (by decide) rfl rfl rfl (Nat.le_of_ble_eq_true rfl) dX6_takeSign_2 (fun v1 M2 rv1 hI p3 => ?_)
  obtain ⟨hI, hW⟩ := hI
  obtain ⟨⟨av1, bv1⟩, rfl⟩ := p3
  refine z_istore_n F dX6_takeSign_5 rfl (by decide) (ls' := [(2, ii v1), (0, .ref (ad 18)), (1, ii x0)]) rfl ?_
  refine z_iload_n F dX6_takeSign_6 rfl (q := 0) rfl ?_
  refine z_if_eq (tgt := 14) F dX6_takeSign_7 (by decide +kernel) (by omega) (fun c4 => ?_) (fun c4 => ?_)
  · refine z_iload_n F dX6_takeSign_14 rfl (q := 0) rfl ?_
    exact hret _ _ 15 _ ⟨by omega, by omega⟩ ⟨hI, hW⟩ ⟨⟨by omega, by omega⟩, hF, (by omega)⟩ dX6_takeSign_15
  · refine z_aload_n F dX6_takeSign_10 rfl (q := 1) rfl ?_
    refine zv_v (rest := []) F (kp_X6_advance_18 l M ⟨hI, hW⟩ (by omega)) cs_X6_42 (T := TX6) (N := 9) (ci := 6) rfl gs_18 (by decide) (by decide) rfl rfl rfl (Nat.le_of_ble_eq_true rfl) dX6_takeSign_11 (fun M5 hI p6 => ?_)
    obtain ⟨hI, hW⟩ := hI
    obtain ⟨fp6, xp6⟩ := p6
    have hF := hF.call fp6 (by decide)
    refine z_iload_n F dX6_takeSign_14 rfl (q := 0) rfl ?_
    exact hret _ _ 15 _ ⟨by omega, by omega⟩ ⟨hI, hW⟩ ⟨⟨by omega, by omega⟩, hF, (by omega)⟩ dX6_takeSign_15
set_option maxHeartbeats 4000000 in
set_option maxRecDepth 4000 in
theorem kp_X6_readTerm_18 (l : Launch) (nr : Nat) (ih : RdX l nr) : ∀ (M : Mem) (hJ : Iw M) (x0 : Int) (hx0a : 0 ≤ x0) (hx0b : x0 ≤ 6) (hp0 : M 18 6 ≤ M 18 5 ∧ M 18 5 ≤ M 18 4) (hmu : (6 - x0) * 8 + 2 < ((nr + 1 : Nat) : Int)), CV l yX6_readTerm cX6_readTerm 3 none (12 + (nr + 1)) (fun ad => [.ref (ad 18), ii x0]) M (fun M' => Fr [18, 31, 32] M M' ∧ (M' 18 4 = M 18 4 ∧ M' 18 6 ≤ M' 18 5 ∧ M' 18 5 ≤ M' 18 4)) := by
  intro M hJ x0 hx0a hx0b hp0 hmu
  obtain ⟨hI, hW⟩ := hJ
  have hF : Fr [18, 31, 32] M M := Fr.rf
  refine en_v (by decide +kernel) (fun ad => by exact Nat.le_of_ble_eq_true rfl) (fun D cy ad A p e s m args below meth c Q F hret => ?_)
  refine z_eq (ls' := [(0, .ref (ad 18)), (1, ii x0)]) rfl rfl rfl ?_
  refine z_aload_n F dX6_readTerm_0 rfl (q := 0) rfl ?_
  refine z_iload_n F dX6_readTerm_1 rfl (q := 1) rfl ?_
  refine zv_v (rest := []) F (ih.2.2.2.2.2 M ⟨hI, hW⟩ x0 (by omega) (by omega) (by omega) (by omega)) cs_X6_262 (T := TX6) (N := 9) (ci := 6) rfl gs_18 (by omega) (by decide) rfl rfl rfl (Nat.le_of_ble_eq_true rfl) dX6_readTerm_2 (fun M1 hI p2 => ?_)
  obtain ⟨hI, hW⟩ := hI
  obtain ⟨fp2, xp2⟩ := p2
  have hF := hF.call fp2 (by decide)
  refine z_iconst F dX6_readTerm_5 ?_
  refine z_istore_n F dX6_readTerm_6 rfl (by decide) (ls' := [(2, ii 0), (0, .ref (ad 18)), (1, ii x0)]) rfl ?_
  refine z_loc [1, 2, 0] (ls' := [(0, .ref (ad 18)), (1, ii x0), (2, ii 0)]) rfl ?_
  suffices key7 : ∀ (n : Nat) (y4 : Int) (M3 : Mem), Inv M3 → WFk M3 → Fr [18, 31, 32] M M3 → 0 ≤ y4 → y4 ≤ 900 → (M3 18 4 = M 18 4) → (M3 18 6 ≤ M3 18 5 ∧ M3 18 5 ≤ M3 18 4) → 900 - y4 < (n : Int) → Z D cy ad p l e (RMh (12 + (nr + 1))) s m args below meth c A 3 0 0 Q 7 [(0, .ref (ad 18)), (1, ii x0), (2, ii y4)] [] M3 from key7 901 0 M1 hI hW hF (by omega) (by omega) (by omega) (by omega) (by omega)
  intro n7
  induction n7 with
  | zero => intro y4 M3 hI hW hF ay4 by4 i7_0 i7_1 hn7; exfalso; omega
  | succ n7 ih7 =>
    intro y4 M3 hI hW hF ay4 by4 i7_0 i7_1 hn7
    refine z_iload_n F dX6_readTerm_7 rfl (q := 2) rfl ?_
    refine z_sipush F dX6_readTerm_8 (by decide +kernel) ?_
    refine z_icmp_ge (tgt := 46) F dX6_readTerm_11 (by decide +kernel) (by omega) (by omega) (fun c5 => ?_) (fun c5 => ?_)
    · exact hret _ 46 _ ⟨hI, hW⟩ ⟨hF, (by omega)⟩ dX6_readTerm_46
    · refine z_aload_n F dX6_readTerm_14 rfl (q := 0) rfl ?_
      refine z_bipush F dX6_readTerm_15 (by decide +kernel) ?_
      refine zv_i (rest := []) F (kp_X6_takeSign_18 l M3 ⟨hI, hW⟩ 42 (by omega) (by omega) (by omega)) cs_X6_265 (T := TX6) (N := 9) (ci := 6) rfl gs_18 (by omega) (by decide) rfl rfl rfl (Nat.le_of_ble_eq_true rfl) dX6_readTerm_17 (fun v6 M7 rv6 hI p8 => ?_)
      obtain ⟨hI, hW⟩ := hI
      obtain ⟨⟨av6, bv6⟩, fp8, xp8⟩ := p8
      have hF := hF.call fp8 (by decide)
      refine z_if_eq (tgt := 46) F dX6_readTerm_20 (by decide +kernel) (by omega) (fun c9 => ?_) (fun c9 => ?_)
      · exact hret _ 46 _ ⟨hI, hW⟩ ⟨hF, (by omega)⟩ dX6_readTerm_46
      · refine z_aload_n F dX6_readTerm_23 rfl (q := 0) rfl ?_
        refine z_iload_n F dX6_readTerm_24 rfl (q := 1) rfl ?_
        refine zv_v (rest := []) F (ih.2.2.2.2.2 M7 ⟨hI, hW⟩ x0 (by omega) (by omega) (by omega) (by omega)) cs_X6_262 (T := TX6) (N := 9) (ci := 6) rfl gs_18 (by omega) (by decide) rfl rfl rfl (Nat.le_of_ble_eq_true rfl) dX6_readTerm_25 (fun M10 hI p11 => ?_)
        obtain ⟨hI, hW⟩ := hI
        obtain ⟨fp11, xp11⟩ := p11
        have hF := hF.call fp11 (by decide)
        refine z_aload_n F dX6_readTerm_28 rfl (q := 0) rfl ?_
        refine rf_X6_12 F gs_18 rfl dX6_readTerm_29 ?_
        refine rf_X6_152 F gs_19 rfl dX6_readTerm_32 ?_
        refine z_bipush F dX6_readTerm_35 (by decide +kernel) ?_
        refine zv_v (rest := []) F (k_X2_append_31 l M10 ⟨hI, hW⟩ (-12) (by omega) (by omega)) cs_X6_239 (T := TX2) (N := 5) (ci := 2) rfl gs_31 (by omega) (by decide) rfl rfl rfl (Nat.le_of_ble_eq_true rfl) dX6_readTerm_37 (fun M12 hI p13 => ?_)
        obtain ⟨hI, hW⟩ := hI
        have fp13 := p13
        have hF := hF.call fp13 (by decide)
        have tM12_18_1 : M12 18 1 = M10 18 1 := fp13.at (by decide)
        have tM12_18_4 : M12 18 4 = M10 18 4 := fp13.at (by decide)
        have tM12_18_5 : M12 18 5 = M10 18 5 := fp13.at (by decide)
        have tM12_18_6 : M12 18 6 = M10 18 6 := fp13.at (by decide)
        refine z_iincN F dX6_readTerm_40 (q := 2) rfl (by decide) (fun v14 ev14 => ?_)
        refine z_eq (ls' := [(2, ii v14), (0, .ref (ad 18)), (1, ii x0)]) rfl rfl rfl ?_
        refine z_goto (tgt := 7) F dX6_readTerm_43 (by decide +kernel) ?_
        refine z_loc [1, 2, 0] (ls' := [(0, .ref (ad 18)), (1, ii x0), (2, ii v14)]) rfl ?_
        exact ih7 v14 M12 hI hW hF (by omega) (by omega) (by omega) (by omega) (by omega)
set_option maxHeartbeats 4000000 in
set_option maxRecDepth 4000 in
theorem kp_X6_isWord_18_1020 (l : Launch) (M : Mem) (hJ : Iw M) (hp0 : M 18 6 ≤ M 18 5 ∧ M 18 5 ≤ M 18 4) : CI l yX6_isWord cX6_isWord 3 (some .boolean) 5 (fun ad => [.ref (ad 18), .ref (ad 1020)]) M (fun z M' => (0 ≤ z ∧ z ≤ 1) ∧ M = M') := by
  obtain ⟨hI, hW⟩ := hJ
  refine en_z (by decide +kernel) (fun ad => by exact Nat.le_of_ble_eq_true rfl) (fun D cy ad A p e s m args below meth c Q F hret => ?_)
  refine z_eq (ls' := [(0, .ref (ad 18)), (1, .ref (ad 1020))]) rfl rfl rfl ?_
  obtain ⟨u1, eu1⟩ : ∃ v : Int, v = M 18 1 := ⟨_, rfl⟩
  have ku1 : (-2147483648) ≤ u1 ∧ u1 ≤ 2147483647 := by have := hI.at (show Bd 18 1 = (-2147483648, 2147483647) from rfl); omega
  obtain ⟨u2, eu2⟩ : ∃ v : Int, v = M 18 4 := ⟨_, rfl⟩
  have ku2 : 0 ≤ u2 ∧ u2 ≤ 900 := by have := hI.at (show Bd 18 4 = (0, 900) from rfl); omega
  obtain ⟨u3, eu3⟩ : ∃ v : Int, v = M 18 5 := ⟨_, rfl⟩
  have ku3 : 0 ≤ u3 ∧ u3 ≤ 900 := by have := hI.at (show Bd 18 5 = (0, 900) from rfl); omega
  obtain ⟨u4, eu4⟩ : ∃ v : Int, v = M 18 6 := ⟨_, rfl⟩
  have ku4 : 0 ≤ u4 ∧ u4 ≤ 900 := by have := hI.at (show Bd 18 6 = (0, 900) from rfl); omega
  refine z_aload_n F dX6_isWord_0 rfl (q := 0) rfl ?_
  refine gf_X6_36 F hI gs_18 rfl bd_18_1 dX6_isWord_1 (fun v5 ev5 av5 bv5 => ?_)
  have zv5 : u1 = v5 := eu1.trans ev5.symm
  subst zv5
  refine z_if_ne (tgt := 31) F dX6_isWord_4 (by decide +kernel) (by omega) (fun c6 => ?_) (fun c6 => ?_)
  · refine z_iconst F dX6_isWord_31 ?_
    exact hret _ _ 32 _ ⟨by omega, by omega⟩ ⟨hI, hW⟩ ⟨⟨by omega, by omega⟩, rfl⟩ dX6_isWord_32
  · refine z_aload_n F dX6_isWord_7 rfl (q := 0) rfl ?_
    refine gf_X6_48 F hI gs_18 rfl bd_18_7 dX6_isWord_8 (fun v7 ev7 av7 bv7 => ?_)
    refine z_iconst F dX6_isWord_11 ?_
    refine z_icmp_ne (tgt := 31) F dX6_isWord_12 (by decide +kernel) (by omega) (by omega) (fun c8 => ?_) (fun c8 => ?_)
    · refine z_iconst F dX6_isWord_31 ?_
      exact hret _ _ 32 _ ⟨by omega, by omega⟩ ⟨hI, hW⟩ ⟨⟨by omega, by omega⟩, rfl⟩ dX6_isWord_32
    · refine z_aload_n F dX6_isWord_15 rfl (q := 0) rfl ?_
      refine gf_X6_33 F hI gs_18 rfl bd_18_5 dX6_isWord_16 (fun v9 ev9 av9 bv9 => ?_)
      have zv9 : u3 = v9 := eu3.trans ev9.symm
      subst zv9
      refine z_aload_n F dX6_isWord_19 rfl (q := 0) rfl ?_
      refine gf_X6_57 F hI gs_18 rfl bd_18_6 dX6_isWord_20 (fun v10 ev10 av10 bv10 => ?_)
      have zv10 : u4 = v10 := eu4.trans ev10.symm
      subst zv10
      refine z_isub F dX6_isWord_23 ?_
      refine z_aload_n F dX6_isWord_24 rfl (q := 1) rfl ?_
      refine zvs_i (i := 20) (rest := [ii (u3 - u4)]) F (kS_len l M ⟨hI, hW⟩ 20 (by decide)) cs_X6_75 (by decide) (by decide) (by decide) rfl rfl rfl (Nat.le_of_ble_eq_true rfl) dX6_isWord_25 (fun v11 M9 rv11 hI9 pv11 => ?_)
      obtain ⟨ev11, rfl⟩ := pv11
      obtain rfl : v11 = 1 := ev11.trans (show ((sbyt.getD 20 []).length : Int) = 1 from by decide)
      clear hI9
      refine z_icmp_eq (tgt := 33) F dX6_isWord_28 (by decide +kernel) (by omega) (by omega) (fun c12 => ?_) (fun c12 => ?_)
      · refine z_iconst F dX6_isWord_33 ?_
        refine z_istore_n F dX6_isWord_34 rfl (by decide) (ls' := [(2, ii 0), (0, .ref (ad 18)), (1, .ref (ad 1020))]) rfl ?_
        refine z_loc [1, 2, 0] (ls' := [(0, .ref (ad 18)), (1, .ref (ad 1020)), (2, ii 0)]) rfl ?_
        suffices key35 : ∀ (n : Nat) (y14 : Int), 0 ≤ y14 → y14 ≤ 1 → 1 - y14 < (n : Int) → Z D cy ad p l e (RMh 5) s m args below meth c A 3 0 0 Q 35 [(0, .ref (ad 18)), (1, .ref (ad 1020)), (2, ii y14)] [] M from key35 2 0 (by omega) (by omega) (by omega)
        intro n35
        induction n35 with
        | zero => intro y14 ay14 by14 hn35; exfalso; omega
        | succ n35 ih35 =>
          intro y14 ay14 by14 hn35
          refine z_iload_n F dX6_isWord_35 rfl (q := 2) rfl ?_
          refine z_aload_n F dX6_isWord_36 rfl (q := 1) rfl ?_
          refine zvs_i (i := 20) (rest := [ii y14]) F (kS_len l M ⟨hI, hW⟩ 20 (by decide)) cs_X6_75 (by decide) (by decide) (by decide) rfl rfl rfl (Nat.le_of_ble_eq_true rfl) dX6_isWord_37 (fun v15 M9 rv15 hI9 pv15 => ?_)
          obtain ⟨ev15, rfl⟩ := pv15
          obtain rfl : v15 = 1 := ev15.trans (show ((sbyt.getD 20 []).length : Int) = 1 from by decide)
          clear hI9
          refine z_icmp_ge (tgt := 70) F dX6_isWord_40 (by decide +kernel) (by omega) (by omega) (fun c16 => ?_) (fun c16 => ?_)
          · refine z_iconst F dX6_isWord_70 ?_
            exact hret _ _ 71 _ ⟨by omega, by omega⟩ ⟨hI, hW⟩ ⟨⟨by omega, by omega⟩, rfl⟩ dX6_isWord_71
          · refine z_aload_n F dX6_isWord_43 rfl (q := 0) rfl ?_
            refine rf_X6_22 F gs_18 rfl dX6_isWord_44 ?_
            refine z_aload_n F dX6_isWord_47 rfl (q := 0) rfl ?_
            refine gf_X6_57 F hI gs_18 rfl bd_18_6 dX6_isWord_48 (fun v17 ev17 av17 bv17 => ?_)
            have zv17 : u4 = v17 := eu4.trans ev17.symm
            subst zv17
            refine z_iload_n F dX6_isWord_51 rfl (q := 2) rfl ?_
            refine z_iadd F dX6_isWord_52 ?_
            have k18 : 0 ≤ (u4 + y14) ∧ (u4 + y14) ≤ 899 := by omega
            refine z_bald F hI gs_1 (by omega) (by omega) (by decide) bd_1 dX6_isWord_53 (fun v19 (ev19 : v19 = M 1 _) av19 bv19 => ?_)
            refine z_aload_n F dX6_isWord_54 rfl (q := 1) rfl ?_
            refine z_iload_n F dX6_isWord_55 rfl (q := 2) rfl ?_
            refine zvs_i (i := 20) (rest := [ii v19]) F (kS_chr l M ⟨hI, hW⟩ 20 (by decide) y14 (by omega) (show y14 < ((sbyt.getD 20 []).length : Int) from by rw [show ((sbyt.getD 20 []).length : Int) = 1 from by decide]; omega)) cs_X6_78 (by decide) (by decide) (by decide) rfl rfl rfl (Nat.le_of_ble_eq_true rfl) dX6_isWord_56 (fun v20 M9 rv20 hI9 pv20 => ?_)
            obtain ⟨⟨av20, bv20⟩, rfl⟩ := pv20
            clear hI9
            refine z_icmp_eq (tgt := 64) F dX6_isWord_59 (by decide +kernel) (by omega) (by omega) (fun c21 => ?_) (fun c21 => ?_)
            · refine z_iincN F dX6_isWord_64 (q := 2) rfl (by decide) (fun v22 ev22 => ?_)
              refine z_eq (ls' := [(2, ii v22), (0, .ref (ad 18)), (1, .ref (ad 1020))]) rfl rfl rfl ?_
              refine z_goto (tgt := 35) F dX6_isWord_67 (by decide +kernel) ?_
              refine z_loc [1, 2, 0] (ls' := [(0, .ref (ad 18)), (1, .ref (ad 1020)), (2, ii v22)]) rfl ?_
              exact ih35 v22 (by omega) (by omega) (by omega)
            · refine z_iconst F dX6_isWord_62 ?_
              exact hret _ _ 63 _ ⟨by omega, by omega⟩ ⟨hI, hW⟩ ⟨⟨by omega, by omega⟩, rfl⟩ dX6_isWord_63
      · refine z_iconst F dX6_isWord_31 ?_
        exact hret _ _ 32 _ ⟨by omega, by omega⟩ ⟨hI, hW⟩ ⟨⟨by omega, by omega⟩, rfl⟩ dX6_isWord_32
set_option maxHeartbeats 4000000 in
set_option maxRecDepth 4000 in
theorem kp_X6_isWord_18_1021 (l : Launch) (M : Mem) (hJ : Iw M) (hp0 : M 18 6 ≤ M 18 5 ∧ M 18 5 ≤ M 18 4) : CI l yX6_isWord cX6_isWord 3 (some .boolean) 5 (fun ad => [.ref (ad 18), .ref (ad 1021)]) M (fun z M' => (0 ≤ z ∧ z ≤ 1) ∧ M = M') := by
  obtain ⟨hI, hW⟩ := hJ
  refine en_z (by decide +kernel) (fun ad => by exact Nat.le_of_ble_eq_true rfl) (fun D cy ad A p e s m args below meth c Q F hret => ?_)
  refine z_eq (ls' := [(0, .ref (ad 18)), (1, .ref (ad 1021))]) rfl rfl rfl ?_
  obtain ⟨u1, eu1⟩ : ∃ v : Int, v = M 18 1 := ⟨_, rfl⟩
  have ku1 : (-2147483648) ≤ u1 ∧ u1 ≤ 2147483647 := by have := hI.at (show Bd 18 1 = (-2147483648, 2147483647) from rfl); omega
  obtain ⟨u2, eu2⟩ : ∃ v : Int, v = M 18 4 := ⟨_, rfl⟩
  have ku2 : 0 ≤ u2 ∧ u2 ≤ 900 := by have := hI.at (show Bd 18 4 = (0, 900) from rfl); omega
  obtain ⟨u3, eu3⟩ : ∃ v : Int, v = M 18 5 := ⟨_, rfl⟩
  have ku3 : 0 ≤ u3 ∧ u3 ≤ 900 := by have := hI.at (show Bd 18 5 = (0, 900) from rfl); omega
  obtain ⟨u4, eu4⟩ : ∃ v : Int, v = M 18 6 := ⟨_, rfl⟩
  have ku4 : 0 ≤ u4 ∧ u4 ≤ 900 := by have := hI.at (show Bd 18 6 = (0, 900) from rfl); omega
  refine z_aload_n F dX6_isWord_0 rfl (q := 0) rfl ?_
  refine gf_X6_36 F hI gs_18 rfl bd_18_1 dX6_isWord_1 (fun v5 ev5 av5 bv5 => ?_)
  have zv5 : u1 = v5 := eu1.trans ev5.symm
  subst zv5
  refine z_if_ne (tgt := 31) F dX6_isWord_4 (by decide +kernel) (by omega) (fun c6 => ?_) (fun c6 => ?_)
  · refine z_iconst F dX6_isWord_31 ?_
    exact hret _ _ 32 _ ⟨by omega, by omega⟩ ⟨hI, hW⟩ ⟨⟨by omega, by omega⟩, rfl⟩ dX6_isWord_32
  · refine z_aload_n F dX6_isWord_7 rfl (q := 0) rfl ?_
    refine gf_X6_48 F hI gs_18 rfl bd_18_7 dX6_isWord_8 (fun v7 ev7 av7 bv7 => ?_)
    refine z_iconst F dX6_isWord_11 ?_
    refine z_icmp_ne (tgt := 31) F dX6_isWord_12 (by decide +kernel) (by omega) (by omega) (fun c8 => ?_) (fun c8 => ?_)
    · refine z_iconst F dX6_isWord_31 ?_
      exact hret _ _ 32 _ ⟨by omega, by omega⟩ ⟨hI, hW⟩ ⟨⟨by omega, by omega⟩, rfl⟩ dX6_isWord_32
    · refine z_aload_n F dX6_isWord_15 rfl (q := 0) rfl ?_
      refine gf_X6_33 F hI gs_18 rfl bd_18_5 dX6_isWord_16 (fun v9 ev9 av9 bv9 => ?_)
      have zv9 : u3 = v9 := eu3.trans ev9.symm
      subst zv9
      refine z_aload_n F dX6_isWord_19 rfl (q := 0) rfl ?_
      refine gf_X6_57 F hI gs_18 rfl bd_18_6 dX6_isWord_20 (fun v10 ev10 av10 bv10 => ?_)
      have zv10 : u4 = v10 := eu4.trans ev10.symm
      subst zv10
      refine z_isub F dX6_isWord_23 ?_
      refine z_aload_n F dX6_isWord_24 rfl (q := 1) rfl ?_
      refine zvs_i (i := 21) (rest := [ii (u3 - u4)]) F (kS_len l M ⟨hI, hW⟩ 21 (by decide)) cs_X6_75 (by decide) (by decide) (by decide) rfl rfl rfl (Nat.le_of_ble_eq_true rfl) dX6_isWord_25 (fun v11 M9 rv11 hI9 pv11 => ?_)
      obtain ⟨ev11, rfl⟩ := pv11
      obtain rfl : v11 = 1 := ev11.trans (show ((sbyt.getD 21 []).length : Int) = 1 from by decide)
      clear hI9
      refine z_icmp_eq (tgt := 33) F dX6_isWord_28 (by decide +kernel) (by omega) (by omega) (fun c12 => ?_) (fun c12 => ?_)
      · refine z_iconst F dX6_isWord_33 ?_
        refine z_istore_n F dX6_isWord_34 rfl (by decide) (ls' := [(2, ii 0), (0, .ref (ad 18)), (1, .ref (ad 1021))]) rfl ?_
        refine z_loc [1, 2, 0] (ls' := [(0, .ref (ad 18)), (1, .ref (ad 1021)), (2, ii 0)]) rfl ?_
        suffices key35 : ∀ (n : Nat) (y14 : Int), 0 ≤ y14 → y14 ≤ 1 → 1 - y14 < (n : Int) → Z D cy ad p l e (RMh 5) s m args below meth c A 3 0 0 Q 35 [(0, .ref (ad 18)), (1, .ref (ad 1021)), (2, ii y14)] [] M from key35 2 0 (by omega) (by omega) (by omega)
        intro n35
        induction n35 with
        | zero => intro y14 ay14 by14 hn35; exfalso; omega
        | succ n35 ih35 =>
          intro y14 ay14 by14 hn35
          refine z_iload_n F dX6_isWord_35 rfl (q := 2) rfl ?_
          refine z_aload_n F dX6_isWord_36 rfl (q := 1) rfl ?_
          refine zvs_i (i := 21) (rest := [ii y14]) F (kS_len l M ⟨hI, hW⟩ 21 (by decide)) cs_X6_75 (by decide) (by decide) (by decide) rfl rfl rfl (Nat.le_of_ble_eq_true rfl) dX6_isWord_37 (fun v15 M9 rv15 hI9 pv15 => ?_)
          obtain ⟨ev15, rfl⟩ := pv15
          obtain rfl : v15 = 1 := ev15.trans (show ((sbyt.getD 21 []).length : Int) = 1 from by decide)
          clear hI9
          refine z_icmp_ge (tgt := 70) F dX6_isWord_40 (by decide +kernel) (by omega) (by omega) (fun c16 => ?_) (fun c16 => ?_)
          · refine z_iconst F dX6_isWord_70 ?_
            exact hret _ _ 71 _ ⟨by omega, by omega⟩ ⟨hI, hW⟩ ⟨⟨by omega, by omega⟩, rfl⟩ dX6_isWord_71
          · refine z_aload_n F dX6_isWord_43 rfl (q := 0) rfl ?_
            refine rf_X6_22 F gs_18 rfl dX6_isWord_44 ?_
            refine z_aload_n F dX6_isWord_47 rfl (q := 0) rfl ?_
            refine gf_X6_57 F hI gs_18 rfl bd_18_6 dX6_isWord_48 (fun v17 ev17 av17 bv17 => ?_)
            have zv17 : u4 = v17 := eu4.trans ev17.symm
            subst zv17
            refine z_iload_n F dX6_isWord_51 rfl (q := 2) rfl ?_
            refine z_iadd F dX6_isWord_52 ?_
            have k18 : 0 ≤ (u4 + y14) ∧ (u4 + y14) ≤ 899 := by omega
            refine z_bald F hI gs_1 (by omega) (by omega) (by decide) bd_1 dX6_isWord_53 (fun v19 (ev19 : v19 = M 1 _) av19 bv19 => ?_)
            refine z_aload_n F dX6_isWord_54 rfl (q := 1) rfl ?_
            refine z_iload_n F dX6_isWord_55 rfl (q := 2) rfl ?_
            refine zvs_i (i := 21) (rest := [ii v19]) F (kS_chr l M ⟨hI, hW⟩ 21 (by decide) y14 (by omega) (show y14 < ((sbyt.getD 21 []).length : Int) from by rw [show ((sbyt.getD 21 []).length : Int) = 1 from by decide]; omega)) cs_X6_78 (by decide) (by decide) (by decide) rfl rfl rfl (Nat.le_of_ble_eq_true rfl) dX6_isWord_56 (fun v20 M9 rv20 hI9 pv20 => ?_)
            obtain ⟨⟨av20, bv20⟩, rfl⟩ := pv20
            clear hI9
            refine z_icmp_eq (tgt := 64) F dX6_isWord_59 (by decide +kernel) (by omega) (by omega) (fun c21 => ?_) (fun c21 => ?_)
            · refine z_iincN F dX6_isWord_64 (q := 2) rfl (by decide) (fun v22 ev22 => ?_)
              refine z_eq (ls' := [(2, ii v22), (0, .ref (ad 18)), (1, .ref (ad 1021))]) rfl rfl rfl ?_
              refine z_goto (tgt := 35) F dX6_isWord_67 (by decide +kernel) ?_
              refine z_loc [1, 2, 0] (ls' := [(0, .ref (ad 18)), (1, .ref (ad 1021)), (2, ii v22)]) rfl ?_
              exact ih35 v22 (by omega) (by omega) (by omega)
            · refine z_iconst F dX6_isWord_62 ?_
              exact hret _ _ 63 _ ⟨by omega, by omega⟩ ⟨hI, hW⟩ ⟨⟨by omega, by omega⟩, rfl⟩ dX6_isWord_63
      · refine z_iconst F dX6_isWord_31 ?_
        exact hret _ _ 32 _ ⟨by omega, by omega⟩ ⟨hI, hW⟩ ⟨⟨by omega, by omega⟩, rfl⟩ dX6_isWord_32
set_option maxHeartbeats 4000000 in
set_option maxRecDepth 4000 in
theorem kp_X6_isWord_18_1022 (l : Launch) (M : Mem) (hJ : Iw M) (hp0 : M 18 6 ≤ M 18 5 ∧ M 18 5 ≤ M 18 4) : CI l yX6_isWord cX6_isWord 3 (some .boolean) 5 (fun ad => [.ref (ad 18), .ref (ad 1022)]) M (fun z M' => (0 ≤ z ∧ z ≤ 1) ∧ M = M') := by
  obtain ⟨hI, hW⟩ := hJ
  refine en_z (by decide +kernel) (fun ad => by exact Nat.le_of_ble_eq_true rfl) (fun D cy ad A p e s m args below meth c Q F hret => ?_)
  refine z_eq (ls' := [(0, .ref (ad 18)), (1, .ref (ad 1022))]) rfl rfl rfl ?_
  obtain ⟨u1, eu1⟩ : ∃ v : Int, v = M 18 1 := ⟨_, rfl⟩
  have ku1 : (-2147483648) ≤ u1 ∧ u1 ≤ 2147483647 := by have := hI.at (show Bd 18 1 = (-2147483648, 2147483647) from rfl); omega
  obtain ⟨u2, eu2⟩ : ∃ v : Int, v = M 18 4 := ⟨_, rfl⟩
  have ku2 : 0 ≤ u2 ∧ u2 ≤ 900 := by have := hI.at (show Bd 18 4 = (0, 900) from rfl); omega
  obtain ⟨u3, eu3⟩ : ∃ v : Int, v = M 18 5 := ⟨_, rfl⟩
  have ku3 : 0 ≤ u3 ∧ u3 ≤ 900 := by have := hI.at (show Bd 18 5 = (0, 900) from rfl); omega
  obtain ⟨u4, eu4⟩ : ∃ v : Int, v = M 18 6 := ⟨_, rfl⟩
  have ku4 : 0 ≤ u4 ∧ u4 ≤ 900 := by have := hI.at (show Bd 18 6 = (0, 900) from rfl); omega
  refine z_aload_n F dX6_isWord_0 rfl (q := 0) rfl ?_
  refine gf_X6_36 F hI gs_18 rfl bd_18_1 dX6_isWord_1 (fun v5 ev5 av5 bv5 => ?_)
  have zv5 : u1 = v5 := eu1.trans ev5.symm
  subst zv5
  refine z_if_ne (tgt := 31) F dX6_isWord_4 (by decide +kernel) (by omega) (fun c6 => ?_) (fun c6 => ?_)
  · refine z_iconst F dX6_isWord_31 ?_
    exact hret _ _ 32 _ ⟨by omega, by omega⟩ ⟨hI, hW⟩ ⟨⟨by omega, by omega⟩, rfl⟩ dX6_isWord_32
  · refine z_aload_n F dX6_isWord_7 rfl (q := 0) rfl ?_
    refine gf_X6_48 F hI gs_18 rfl bd_18_7 dX6_isWord_8 (fun v7 ev7 av7 bv7 => ?_)
    refine z_iconst F dX6_isWord_11 ?_
    refine z_icmp_ne (tgt := 31) F dX6_isWord_12 (by decide +kernel) (by omega) (by omega) (fun c8 => ?_) (fun c8 => ?_)
    · refine z_iconst F dX6_isWord_31 ?_
      exact hret _ _ 32 _ ⟨by omega, by omega⟩ ⟨hI, hW⟩ ⟨⟨by omega, by omega⟩, rfl⟩ dX6_isWord_32
    · refine z_aload_n F dX6_isWord_15 rfl (q := 0) rfl ?_
      refine gf_X6_33 F hI gs_18 rfl bd_18_5 dX6_isWord_16 (fun v9 ev9 av9 bv9 => ?_)
      have zv9 : u3 = v9 := eu3.trans ev9.symm
      subst zv9
      refine z_aload_n F dX6_isWord_19 rfl (q := 0) rfl ?_
      refine gf_X6_57 F hI gs_18 rfl bd_18_6 dX6_isWord_20 (fun v10 ev10 av10 bv10 => ?_)
      have zv10 : u4 = v10 := eu4.trans ev10.symm
      subst zv10
      refine z_isub F dX6_isWord_23 ?_
      refine z_aload_n F dX6_isWord_24 rfl (q := 1) rfl ?_
      refine zvs_i (i := 22) (rest := [ii (u3 - u4)]) F (kS_len l M ⟨hI, hW⟩ 22 (by decide)) cs_X6_75 (by decide) (by decide) (by decide) rfl rfl rfl (Nat.le_of_ble_eq_true rfl) dX6_isWord_25 (fun v11 M9 rv11 hI9 pv11 => ?_)
      obtain ⟨ev11, rfl⟩ := pv11
      obtain rfl : v11 = 4 := ev11.trans (show ((sbyt.getD 22 []).length : Int) = 4 from by decide)
      clear hI9
      refine z_icmp_eq (tgt := 33) F dX6_isWord_28 (by decide +kernel) (by omega) (by omega) (fun c12 => ?_) (fun c12 => ?_)
      · refine z_iconst F dX6_isWord_33 ?_
        refine z_istore_n F dX6_isWord_34 rfl (by decide) (ls' := [(2, ii 0), (0, .ref (ad 18)), (1, .ref (ad 1022))]) rfl ?_
        refine z_loc [1, 2, 0] (ls' := [(0, .ref (ad 18)), (1, .ref (ad 1022)), (2, ii 0)]) rfl ?_
        suffices key35 : ∀ (n : Nat) (y14 : Int), 0 ≤ y14 → y14 ≤ 4 → 4 - y14 < (n : Int) → Z D cy ad p l e (RMh 5) s m args below meth c A 3 0 0 Q 35 [(0, .ref (ad 18)), (1, .ref (ad 1022)), (2, ii y14)] [] M from key35 5 0 (by omega) (by omega) (by omega)
        intro n35
        induction n35 with
        | zero => intro y14 ay14 by14 hn35; exfalso; omega
        | succ n35 ih35 =>
          intro y14 ay14 by14 hn35
          refine z_iload_n F dX6_isWord_35 rfl (q := 2) rfl ?_
          refine z_aload_n F dX6_isWord_36 rfl (q := 1) rfl ?_
          refine zvs_i (i := 22) (rest := [ii y14]) F (kS_len l M ⟨hI, hW⟩ 22 (by decide)) cs_X6_75 (by decide) (by decide) (by decide) rfl rfl rfl (Nat.le_of_ble_eq_true rfl) dX6_isWord_37 (fun v15 M9 rv15 hI9 pv15 => ?_)
          obtain ⟨ev15, rfl⟩ := pv15
          obtain rfl : v15 = 4 := ev15.trans (show ((sbyt.getD 22 []).length : Int) = 4 from by decide)
          clear hI9
          refine z_icmp_ge (tgt := 70) F dX6_isWord_40 (by decide +kernel) (by omega) (by omega) (fun c16 => ?_) (fun c16 => ?_)
          · refine z_iconst F dX6_isWord_70 ?_
            exact hret _ _ 71 _ ⟨by omega, by omega⟩ ⟨hI, hW⟩ ⟨⟨by omega, by omega⟩, rfl⟩ dX6_isWord_71
          · refine z_aload_n F dX6_isWord_43 rfl (q := 0) rfl ?_
            refine rf_X6_22 F gs_18 rfl dX6_isWord_44 ?_
            refine z_aload_n F dX6_isWord_47 rfl (q := 0) rfl ?_
            refine gf_X6_57 F hI gs_18 rfl bd_18_6 dX6_isWord_48 (fun v17 ev17 av17 bv17 => ?_)
            have zv17 : u4 = v17 := eu4.trans ev17.symm
            subst zv17
            refine z_iload_n F dX6_isWord_51 rfl (q := 2) rfl ?_
            refine z_iadd F dX6_isWord_52 ?_
            have k18 : 0 ≤ (u4 + y14) ∧ (u4 + y14) ≤ 899 := by omega
            refine z_bald F hI gs_1 (by omega) (by omega) (by decide) bd_1 dX6_isWord_53 (fun v19 (ev19 : v19 = M 1 _) av19 bv19 => ?_)
            refine z_aload_n F dX6_isWord_54 rfl (q := 1) rfl ?_
            refine z_iload_n F dX6_isWord_55 rfl (q := 2) rfl ?_
            refine zvs_i (i := 22) (rest := [ii v19]) F (kS_chr l M ⟨hI, hW⟩ 22 (by decide) y14 (by omega) (show y14 < ((sbyt.getD 22 []).length : Int) from by rw [show ((sbyt.getD 22 []).length : Int) = 4 from by decide]; omega)) cs_X6_78 (by decide) (by decide) (by decide) rfl rfl rfl (Nat.le_of_ble_eq_true rfl) dX6_isWord_56 (fun v20 M9 rv20 hI9 pv20 => ?_)
            obtain ⟨⟨av20, bv20⟩, rfl⟩ := pv20
            clear hI9
            refine z_icmp_eq (tgt := 64) F dX6_isWord_59 (by decide +kernel) (by omega) (by omega) (fun c21 => ?_) (fun c21 => ?_)
            · refine z_iincN F dX6_isWord_64 (q := 2) rfl (by decide) (fun v22 ev22 => ?_)
              refine z_eq (ls' := [(2, ii v22), (0, .ref (ad 18)), (1, .ref (ad 1022))]) rfl rfl rfl ?_
              refine z_goto (tgt := 35) F dX6_isWord_67 (by decide +kernel) ?_
              refine z_loc [1, 2, 0] (ls' := [(0, .ref (ad 18)), (1, .ref (ad 1022)), (2, ii v22)]) rfl ?_
              exact ih35 v22 (by omega) (by omega) (by omega)
            · refine z_iconst F dX6_isWord_62 ?_
              exact hret _ _ 63 _ ⟨by omega, by omega⟩ ⟨hI, hW⟩ ⟨⟨by omega, by omega⟩, rfl⟩ dX6_isWord_63
      · refine z_iconst F dX6_isWord_31 ?_
        exact hret _ _ 32 _ ⟨by omega, by omega⟩ ⟨hI, hW⟩ ⟨⟨by omega, by omega⟩, rfl⟩ dX6_isWord_32
set_option maxHeartbeats 4000000 in
set_option maxRecDepth 4000 in
theorem kp_X6_isWord_18_1023 (l : Launch) (M : Mem) (hJ : Iw M) (hp0 : M 18 6 ≤ M 18 5 ∧ M 18 5 ≤ M 18 4) : CI l yX6_isWord cX6_isWord 3 (some .boolean) 5 (fun ad => [.ref (ad 18), .ref (ad 1023)]) M (fun z M' => (0 ≤ z ∧ z ≤ 1) ∧ M = M') := by
  obtain ⟨hI, hW⟩ := hJ
  refine en_z (by decide +kernel) (fun ad => by exact Nat.le_of_ble_eq_true rfl) (fun D cy ad A p e s m args below meth c Q F hret => ?_)
  refine z_eq (ls' := [(0, .ref (ad 18)), (1, .ref (ad 1023))]) rfl rfl rfl ?_
  obtain ⟨u1, eu1⟩ : ∃ v : Int, v = M 18 1 := ⟨_, rfl⟩
  have ku1 : (-2147483648) ≤ u1 ∧ u1 ≤ 2147483647 := by have := hI.at (show Bd 18 1 = (-2147483648, 2147483647) from rfl); omega
  obtain ⟨u2, eu2⟩ : ∃ v : Int, v = M 18 4 := ⟨_, rfl⟩
  have ku2 : 0 ≤ u2 ∧ u2 ≤ 900 := by have := hI.at (show Bd 18 4 = (0, 900) from rfl); omega
  obtain ⟨u3, eu3⟩ : ∃ v : Int, v = M 18 5 := ⟨_, rfl⟩
  have ku3 : 0 ≤ u3 ∧ u3 ≤ 900 := by have := hI.at (show Bd 18 5 = (0, 900) from rfl); omega
  obtain ⟨u4, eu4⟩ : ∃ v : Int, v = M 18 6 := ⟨_, rfl⟩
  have ku4 : 0 ≤ u4 ∧ u4 ≤ 900 := by have := hI.at (show Bd 18 6 = (0, 900) from rfl); omega
  refine z_aload_n F dX6_isWord_0 rfl (q := 0) rfl ?_
  refine gf_X6_36 F hI gs_18 rfl bd_18_1 dX6_isWord_1 (fun v5 ev5 av5 bv5 => ?_)
  have zv5 : u1 = v5 := eu1.trans ev5.symm
  subst zv5
  refine z_if_ne (tgt := 31) F dX6_isWord_4 (by decide +kernel) (by omega) (fun c6 => ?_) (fun c6 => ?_)
  · refine z_iconst F dX6_isWord_31 ?_
    exact hret _ _ 32 _ ⟨by omega, by omega⟩ ⟨hI, hW⟩ ⟨⟨by omega, by omega⟩, rfl⟩ dX6_isWord_32
  · refine z_aload_n F dX6_isWord_7 rfl (q := 0) rfl ?_
    refine gf_X6_48 F hI gs_18 rfl bd_18_7 dX6_isWord_8 (fun v7 ev7 av7 bv7 => ?_)
    refine z_iconst F dX6_isWord_11 ?_
    refine z_icmp_ne (tgt := 31) F dX6_isWord_12 (by decide +kernel) (by omega) (by omega) (fun c8 => ?_) (fun c8 => ?_)
    · refine z_iconst F dX6_isWord_31 ?_
      exact hret _ _ 32 _ ⟨by omega, by omega⟩ ⟨hI, hW⟩ ⟨⟨by omega, by omega⟩, rfl⟩ dX6_isWord_32
    · refine z_aload_n F dX6_isWord_15 rfl (q := 0) rfl ?_
      refine gf_X6_33 F hI gs_18 rfl bd_18_5 dX6_isWord_16 (fun v9 ev9 av9 bv9 => ?_)
      have zv9 : u3 = v9 := eu3.trans ev9.symm
      subst zv9
      refine z_aload_n F dX6_isWord_19 rfl (q := 0) rfl ?_
      refine gf_X6_57 F hI gs_18 rfl bd_18_6 dX6_isWord_20 (fun v10 ev10 av10 bv10 => ?_)
      have zv10 : u4 = v10 := eu4.trans ev10.symm
      subst zv10
      refine z_isub F dX6_isWord_23 ?_
      refine z_aload_n F dX6_isWord_24 rfl (q := 1) rfl ?_
      refine zvs_i (i := 23) (rest := [ii (u3 - u4)]) F (kS_len l M ⟨hI, hW⟩ 23 (by decide)) cs_X6_75 (by decide) (by decide) (by decide) rfl rfl rfl (Nat.le_of_ble_eq_true rfl) dX6_isWord_25 (fun v11 M9 rv11 hI9 pv11 => ?_)
      obtain ⟨ev11, rfl⟩ := pv11
      obtain rfl : v11 = 4 := ev11.trans (show ((sbyt.getD 23 []).length : Int) = 4 from by decide)
      clear hI9
      refine z_icmp_eq (tgt := 33) F dX6_isWord_28 (by decide +kernel) (by omega) (by omega) (fun c12 => ?_) (fun c12 => ?_)
      · refine z_iconst F dX6_isWord_33 ?_
        refine z_istore_n F dX6_isWord_34 rfl (by decide) (ls' := [(2, ii 0), (0, .ref (ad 18)), (1, .ref (ad 1023))]) rfl ?_
        refine z_loc [1, 2, 0] (ls' := [(0, .ref (ad 18)), (1, .ref (ad 1023)), (2, ii 0)]) rfl ?_
        suffices key35 : ∀ (n : Nat) (y14 : Int), 0 ≤ y14 → y14 ≤ 4 → 4 - y14 < (n : Int) → Z D cy ad p l e (RMh 5) s m args below meth c A 3 0 0 Q 35 [(0, .ref (ad 18)), (1, .ref (ad 1023)), (2, ii y14)] [] M from key35 5 0 (by omega) (by omega) (by omega)
        intro n35
        induction n35 with
        | zero => intro y14 ay14 by14 hn35; exfalso; omega
        | succ n35 ih35 =>
          intro y14 ay14 by14 hn35
          refine z_iload_n F dX6_isWord_35 rfl (q := 2) rfl ?_
          refine z_aload_n F dX6_isWord_36 rfl (q := 1) rfl ?_
          refine zvs_i (i := 23) (rest := [ii y14]) F (kS_len l M ⟨hI, hW⟩ 23 (by decide)) cs_X6_75 (by decide) (by decide) (by decide) rfl rfl rfl (Nat.le_of_ble_eq_true rfl) dX6_isWord_37 (fun v15 M9 rv15 hI9 pv15 => ?_)
          obtain ⟨ev15, rfl⟩ := pv15
          obtain rfl : v15 = 4 := ev15.trans (show ((sbyt.getD 23 []).length : Int) = 4 from by decide)
          clear hI9
          refine z_icmp_ge (tgt := 70) F dX6_isWord_40 (by decide +kernel) (by omega) (by omega) (fun c16 => ?_) (fun c16 => ?_)
          · refine z_iconst F dX6_isWord_70 ?_
            exact hret _ _ 71 _ ⟨by omega, by omega⟩ ⟨hI, hW⟩ ⟨⟨by omega, by omega⟩, rfl⟩ dX6_isWord_71
          · refine z_aload_n F dX6_isWord_43 rfl (q := 0) rfl ?_
            refine rf_X6_22 F gs_18 rfl dX6_isWord_44 ?_
            refine z_aload_n F dX6_isWord_47 rfl (q := 0) rfl ?_
            refine gf_X6_57 F hI gs_18 rfl bd_18_6 dX6_isWord_48 (fun v17 ev17 av17 bv17 => ?_)
            have zv17 : u4 = v17 := eu4.trans ev17.symm
            subst zv17
            refine z_iload_n F dX6_isWord_51 rfl (q := 2) rfl ?_
            refine z_iadd F dX6_isWord_52 ?_
            have k18 : 0 ≤ (u4 + y14) ∧ (u4 + y14) ≤ 899 := by omega
            refine z_bald F hI gs_1 (by omega) (by omega) (by decide) bd_1 dX6_isWord_53 (fun v19 (ev19 : v19 = M 1 _) av19 bv19 => ?_)
            refine z_aload_n F dX6_isWord_54 rfl (q := 1) rfl ?_
            refine z_iload_n F dX6_isWord_55 rfl (q := 2) rfl ?_
            refine zvs_i (i := 23) (rest := [ii v19]) F (kS_chr l M ⟨hI, hW⟩ 23 (by decide) y14 (by omega) (show y14 < ((sbyt.getD 23 []).length : Int) from by rw [show ((sbyt.getD 23 []).length : Int) = 4 from by decide]; omega)) cs_X6_78 (by decide) (by decide) (by decide) rfl rfl rfl (Nat.le_of_ble_eq_true rfl) dX6_isWord_56 (fun v20 M9 rv20 hI9 pv20 => ?_)
            obtain ⟨⟨av20, bv20⟩, rfl⟩ := pv20
            clear hI9
            refine z_icmp_eq (tgt := 64) F dX6_isWord_59 (by decide +kernel) (by omega) (by omega) (fun c21 => ?_) (fun c21 => ?_)
            · refine z_iincN F dX6_isWord_64 (q := 2) rfl (by decide) (fun v22 ev22 => ?_)
              refine z_eq (ls' := [(2, ii v22), (0, .ref (ad 18)), (1, .ref (ad 1023))]) rfl rfl rfl ?_
              refine z_goto (tgt := 35) F dX6_isWord_67 (by decide +kernel) ?_
              refine z_loc [1, 2, 0] (ls' := [(0, .ref (ad 18)), (1, .ref (ad 1023)), (2, ii v22)]) rfl ?_
              exact ih35 v22 (by omega) (by omega) (by omega)
            · refine z_iconst F dX6_isWord_62 ?_
              exact hret _ _ 63 _ ⟨by omega, by omega⟩ ⟨hI, hW⟩ ⟨⟨by omega, by omega⟩, rfl⟩ dX6_isWord_63
      · refine z_iconst F dX6_isWord_31 ?_
        exact hret _ _ 32 _ ⟨by omega, by omega⟩ ⟨hI, hW⟩ ⟨⟨by omega, by omega⟩, rfl⟩ dX6_isWord_32
set_option maxHeartbeats 4000000 in
set_option maxRecDepth 4000 in
theorem kp_X6_isWord_18_1024 (l : Launch) (M : Mem) (hJ : Iw M) (hp0 : M 18 6 ≤ M 18 5 ∧ M 18 5 ≤ M 18 4) : CI l yX6_isWord cX6_isWord 3 (some .boolean) 5 (fun ad => [.ref (ad 18), .ref (ad 1024)]) M (fun z M' => (0 ≤ z ∧ z ≤ 1) ∧ M = M') := by
  obtain ⟨hI, hW⟩ := hJ
  refine en_z (by decide +kernel) (fun ad => by exact Nat.le_of_ble_eq_true rfl) (fun D cy ad A p e s m args below meth c Q F hret => ?_)
  refine z_eq (ls' := [(0, .ref (ad 18)), (1, .ref (ad 1024))]) rfl rfl rfl ?_
  obtain ⟨u1, eu1⟩ : ∃ v : Int, v = M 18 1 := ⟨_, rfl⟩
  have ku1 : (-2147483648) ≤ u1 ∧ u1 ≤ 2147483647 := by have := hI.at (show Bd 18 1 = (-2147483648, 2147483647) from rfl); omega
  obtain ⟨u2, eu2⟩ : ∃ v : Int, v = M 18 4 := ⟨_, rfl⟩
  have ku2 : 0 ≤ u2 ∧ u2 ≤ 900 := by have := hI.at (show Bd 18 4 = (0, 900) from rfl); omega
  obtain ⟨u3, eu3⟩ : ∃ v : Int, v = M 18 5 := ⟨_, rfl⟩
  have ku3 : 0 ≤ u3 ∧ u3 ≤ 900 := by have := hI.at (show Bd 18 5 = (0, 900) from rfl); omega
  obtain ⟨u4, eu4⟩ : ∃ v : Int, v = M 18 6 := ⟨_, rfl⟩
  have ku4 : 0 ≤ u4 ∧ u4 ≤ 900 := by have := hI.at (show Bd 18 6 = (0, 900) from rfl); omega
  refine z_aload_n F dX6_isWord_0 rfl (q := 0) rfl ?_
  refine gf_X6_36 F hI gs_18 rfl bd_18_1 dX6_isWord_1 (fun v5 ev5 av5 bv5 => ?_)
  have zv5 : u1 = v5 := eu1.trans ev5.symm
  subst zv5
  refine z_if_ne (tgt := 31) F dX6_isWord_4 (by decide +kernel) (by omega) (fun c6 => ?_) (fun c6 => ?_)
  · refine z_iconst F dX6_isWord_31 ?_
    exact hret _ _ 32 _ ⟨by omega, by omega⟩ ⟨hI, hW⟩ ⟨⟨by omega, by omega⟩, rfl⟩ dX6_isWord_32
  · refine z_aload_n F dX6_isWord_7 rfl (q := 0) rfl ?_
    refine gf_X6_48 F hI gs_18 rfl bd_18_7 dX6_isWord_8 (fun v7 ev7 av7 bv7 => ?_)
    refine z_iconst F dX6_isWord_11 ?_
    refine z_icmp_ne (tgt := 31) F dX6_isWord_12 (by decide +kernel) (by omega) (by omega) (fun c8 => ?_) (fun c8 => ?_)
    · refine z_iconst F dX6_isWord_31 ?_
      exact hret _ _ 32 _ ⟨by omega, by omega⟩ ⟨hI, hW⟩ ⟨⟨by omega, by omega⟩, rfl⟩ dX6_isWord_32
    · refine z_aload_n F dX6_isWord_15 rfl (q := 0) rfl ?_
      refine gf_X6_33 F hI gs_18 rfl bd_18_5 dX6_isWord_16 (fun v9 ev9 av9 bv9 => ?_)
      have zv9 : u3 = v9 := eu3.trans ev9.symm
      subst zv9
      refine z_aload_n F dX6_isWord_19 rfl (q := 0) rfl ?_
      refine gf_X6_57 F hI gs_18 rfl bd_18_6 dX6_isWord_20 (fun v10 ev10 av10 bv10 => ?_)
      have zv10 : u4 = v10 := eu4.trans ev10.symm
      subst zv10
      refine z_isub F dX6_isWord_23 ?_
      refine z_aload_n F dX6_isWord_24 rfl (q := 1) rfl ?_
      refine zvs_i (i := 24) (rest := [ii (u3 - u4)]) F (kS_len l M ⟨hI, hW⟩ 24 (by decide)) cs_X6_75 (by decide) (by decide) (by decide) rfl rfl rfl (Nat.le_of_ble_eq_true rfl) dX6_isWord_25 (fun v11 M9 rv11 hI9 pv11 => ?_)
      obtain ⟨ev11, rfl⟩ := pv11
      obtain rfl : v11 = 5 := ev11.trans (show ((sbyt.getD 24 []).length : Int) = 5 from by decide)
      clear hI9
      refine z_icmp_eq (tgt := 33) F dX6_isWord_28 (by decide +kernel) (by omega) (by omega) (fun c12 => ?_) (fun c12 => ?_)
      · refine z_iconst F dX6_isWord_33 ?_
        refine z_istore_n F dX6_isWord_34 rfl (by decide) (ls' := [(2, ii 0), (0, .ref (ad 18)), (1, .ref (ad 1024))]) rfl ?_
        refine z_loc [1, 2, 0] (ls' := [(0, .ref (ad 18)), (1, .ref (ad 1024)), (2, ii 0)]) rfl ?_
        suffices key35 : ∀ (n : Nat) (y14 : Int), 0 ≤ y14 → y14 ≤ 5 → 5 - y14 < (n : Int) → Z D cy ad p l e (RMh 5) s m args below meth c A 3 0 0 Q 35 [(0, .ref (ad 18)), (1, .ref (ad 1024)), (2, ii y14)] [] M from key35 6 0 (by omega) (by omega) (by omega)
        intro n35
        induction n35 with
        | zero => intro y14 ay14 by14 hn35; exfalso; omega
        | succ n35 ih35 =>
          intro y14 ay14 by14 hn35
          refine z_iload_n F dX6_isWord_35 rfl (q := 2) rfl ?_
          refine z_aload_n F dX6_isWord_36 rfl (q := 1) rfl ?_
          refine zvs_i (i := 24) (rest := [ii y14]) F (kS_len l M ⟨hI, hW⟩ 24 (by decide)) cs_X6_75 (by decide) (by decide) (by decide) rfl rfl rfl (Nat.le_of_ble_eq_true rfl) dX6_isWord_37 (fun v15 M9 rv15 hI9 pv15 => ?_)
          obtain ⟨ev15, rfl⟩ := pv15
          obtain rfl : v15 = 5 := ev15.trans (show ((sbyt.getD 24 []).length : Int) = 5 from by decide)
          clear hI9
          refine z_icmp_ge (tgt := 70) F dX6_isWord_40 (by decide +kernel) (by omega) (by omega) (fun c16 => ?_) (fun c16 => ?_)
          · refine z_iconst F dX6_isWord_70 ?_
            exact hret _ _ 71 _ ⟨by omega, by omega⟩ ⟨hI, hW⟩ ⟨⟨by omega, by omega⟩, rfl⟩ dX6_isWord_71
          · refine z_aload_n F dX6_isWord_43 rfl (q := 0) rfl ?_
            refine rf_X6_22 F gs_18 rfl dX6_isWord_44 ?_
            refine z_aload_n F dX6_isWord_47 rfl (q := 0) rfl ?_
            refine gf_X6_57 F hI gs_18 rfl bd_18_6 dX6_isWord_48 (fun v17 ev17 av17 bv17 => ?_)
            have zv17 : u4 = v17 := eu4.trans ev17.symm
            subst zv17
            refine z_iload_n F dX6_isWord_51 rfl (q := 2) rfl ?_
            refine z_iadd F dX6_isWord_52 ?_
            have k18 : 0 ≤ (u4 + y14) ∧ (u4 + y14) ≤ 899 := by omega
            refine z_bald F hI gs_1 (by omega) (by omega) (by decide) bd_1 dX6_isWord_53 (fun v19 (ev19 : v19 = M 1 _) av19 bv19 => ?_)
            refine z_aload_n F dX6_isWord_54 rfl (q := 1) rfl ?_
            refine z_iload_n F dX6_isWord_55 rfl (q := 2) rfl ?_
            refine zvs_i (i := 24) (rest := [ii v19]) F (kS_chr l M ⟨hI, hW⟩ 24 (by decide) y14 (by omega) (show y14 < ((sbyt.getD 24 []).length : Int) from by rw [show ((sbyt.getD 24 []).length : Int) = 5 from by decide]; omega)) cs_X6_78 (by decide) (by decide) (by decide) rfl rfl rfl (Nat.le_of_ble_eq_true rfl) dX6_isWord_56 (fun v20 M9 rv20 hI9 pv20 => ?_)
            obtain ⟨⟨av20, bv20⟩, rfl⟩ := pv20
            clear hI9
            refine z_icmp_eq (tgt := 64) F dX6_isWord_59 (by decide +kernel) (by omega) (by omega) (fun c21 => ?_) (fun c21 => ?_)
            · refine z_iincN F dX6_isWord_64 (q := 2) rfl (by decide) (fun v22 ev22 => ?_)
              refine z_eq (ls' := [(2, ii v22), (0, .ref (ad 18)), (1, .ref (ad 1024))]) rfl rfl rfl ?_
              refine z_goto (tgt := 35) F dX6_isWord_67 (by decide +kernel) ?_
              refine z_loc [1, 2, 0] (ls' := [(0, .ref (ad 18)), (1, .ref (ad 1024)), (2, ii v22)]) rfl ?_
              exact ih35 v22 (by omega) (by omega) (by omega)
            · refine z_iconst F dX6_isWord_62 ?_
              exact hret _ _ 63 _ ⟨by omega, by omega⟩ ⟨hI, hW⟩ ⟨⟨by omega, by omega⟩, rfl⟩ dX6_isWord_63
      · refine z_iconst F dX6_isWord_31 ?_
        exact hret _ _ 32 _ ⟨by omega, by omega⟩ ⟨hI, hW⟩ ⟨⟨by omega, by omega⟩, rfl⟩ dX6_isWord_32
set_option maxHeartbeats 4000000 in
set_option maxRecDepth 4000 in
theorem kp_X6_isWord_18_1025 (l : Launch) (M : Mem) (hJ : Iw M) (hp0 : M 18 6 ≤ M 18 5 ∧ M 18 5 ≤ M 18 4) : CI l yX6_isWord cX6_isWord 3 (some .boolean) 5 (fun ad => [.ref (ad 18), .ref (ad 1025)]) M (fun z M' => (0 ≤ z ∧ z ≤ 1) ∧ M = M') := by
  obtain ⟨hI, hW⟩ := hJ
  refine en_z (by decide +kernel) (fun ad => by exact Nat.le_of_ble_eq_true rfl) (fun D cy ad A p e s m args below meth c Q F hret => ?_)
  refine z_eq (ls' := [(0, .ref (ad 18)), (1, .ref (ad 1025))]) rfl rfl rfl ?_
  obtain ⟨u1, eu1⟩ : ∃ v : Int, v = M 18 1 := ⟨_, rfl⟩
  have ku1 : (-2147483648) ≤ u1 ∧ u1 ≤ 2147483647 := by have := hI.at (show Bd 18 1 = (-2147483648, 2147483647) from rfl); omega
  obtain ⟨u2, eu2⟩ : ∃ v : Int, v = M 18 4 := ⟨_, rfl⟩
  have ku2 : 0 ≤ u2 ∧ u2 ≤ 900 := by have := hI.at (show Bd 18 4 = (0, 900) from rfl); omega
  obtain ⟨u3, eu3⟩ : ∃ v : Int, v = M 18 5 := ⟨_, rfl⟩
  have ku3 : 0 ≤ u3 ∧ u3 ≤ 900 := by have := hI.at (show Bd 18 5 = (0, 900) from rfl); omega
  obtain ⟨u4, eu4⟩ : ∃ v : Int, v = M 18 6 := ⟨_, rfl⟩
  have ku4 : 0 ≤ u4 ∧ u4 ≤ 900 := by have := hI.at (show Bd 18 6 = (0, 900) from rfl); omega
  refine z_aload_n F dX6_isWord_0 rfl (q := 0) rfl ?_
  refine gf_X6_36 F hI gs_18 rfl bd_18_1 dX6_isWord_1 (fun v5 ev5 av5 bv5 => ?_)
  have zv5 : u1 = v5 := eu1.trans ev5.symm
  subst zv5
  refine z_if_ne (tgt := 31) F dX6_isWord_4 (by decide +kernel) (by omega) (fun c6 => ?_) (fun c6 => ?_)
  · refine z_iconst F dX6_isWord_31 ?_
    exact hret _ _ 32 _ ⟨by omega, by omega⟩ ⟨hI, hW⟩ ⟨⟨by omega, by omega⟩, rfl⟩ dX6_isWord_32
  · refine z_aload_n F dX6_isWord_7 rfl (q := 0) rfl ?_
    refine gf_X6_48 F hI gs_18 rfl bd_18_7 dX6_isWord_8 (fun v7 ev7 av7 bv7 => ?_)
    refine z_iconst F dX6_isWord_11 ?_
    refine z_icmp_ne (tgt := 31) F dX6_isWord_12 (by decide +kernel) (by omega) (by omega) (fun c8 => ?_) (fun c8 => ?_)
    · refine z_iconst F dX6_isWord_31 ?_
      exact hret _ _ 32 _ ⟨by omega, by omega⟩ ⟨hI, hW⟩ ⟨⟨by omega, by omega⟩, rfl⟩ dX6_isWord_32
    · refine z_aload_n F dX6_isWord_15 rfl (q := 0) rfl ?_
      refine gf_X6_33 F hI gs_18 rfl bd_18_5 dX6_isWord_16 (fun v9 ev9 av9 bv9 => ?_)
      have zv9 : u3 = v9 := eu3.trans ev9.symm
      subst zv9
      refine z_aload_n F dX6_isWord_19 rfl (q := 0) rfl ?_
      refine gf_X6_57 F hI gs_18 rfl bd_18_6 dX6_isWord_20 (fun v10 ev10 av10 bv10 => ?_)
      have zv10 : u4 = v10 := eu4.trans ev10.symm
      subst zv10
      refine z_isub F dX6_isWord_23 ?_
      refine z_aload_n F dX6_isWord_24 rfl (q := 1) rfl ?_
      refine zvs_i (i := 25) (rest := [ii (u3 - u4)]) F (kS_len l M ⟨hI, hW⟩ 25 (by decide)) cs_X6_75 (by decide) (by decide) (by decide) rfl rfl rfl (Nat.le_of_ble_eq_true rfl) dX6_isWord_25 (fun v11 M9 rv11 hI9 pv11 => ?_)
      obtain ⟨ev11, rfl⟩ := pv11
      obtain rfl : v11 = 5 := ev11.trans (show ((sbyt.getD 25 []).length : Int) = 5 from by decide)
      clear hI9
      refine z_icmp_eq (tgt := 33) F dX6_isWord_28 (by decide +kernel) (by omega) (by omega) (fun c12 => ?_) (fun c12 => ?_)
      · refine z_iconst F dX6_isWord_33 ?_
        refine z_istore_n F dX6_isWord_34 rfl (by decide) (ls' := [(2, ii 0), (0, .ref (ad 18)), (1, .ref (ad 1025))]) rfl ?_
        refine z_loc [1, 2, 0] (ls' := [(0, .ref (ad 18)), (1, .ref (ad 1025)), (2, ii 0)]) rfl ?_
        suffices key35 : ∀ (n : Nat) (y14 : Int), 0 ≤ y14 → y14 ≤ 5 → 5 - y14 < (n : Int) → Z D cy ad p l e (RMh 5) s m args below meth c A 3 0 0 Q 35 [(0, .ref (ad 18)), (1, .ref (ad 1025)), (2, ii y14)] [] M from key35 6 0 (by omega) (by omega) (by omega)
        intro n35
        induction n35 with
        | zero => intro y14 ay14 by14 hn35; exfalso; omega
        | succ n35 ih35 =>
          intro y14 ay14 by14 hn35
          refine z_iload_n F dX6_isWord_35 rfl (q := 2) rfl ?_
          refine z_aload_n F dX6_isWord_36 rfl (q := 1) rfl ?_
          refine zvs_i (i := 25) (rest := [ii y14]) F (kS_len l M ⟨hI, hW⟩ 25 (by decide)) cs_X6_75 (by decide) (by decide) (by decide) rfl rfl rfl (Nat.le_of_ble_eq_true rfl) dX6_isWord_37 (fun v15 M9 rv15 hI9 pv15 => ?_)
          obtain ⟨ev15, rfl⟩ := pv15
          obtain rfl : v15 = 5 := ev15.trans (show ((sbyt.getD 25 []).length : Int) = 5 from by decide)
          clear hI9
          refine z_icmp_ge (tgt := 70) F dX6_isWord_40 (by decide +kernel) (by omega) (by omega) (fun c16 => ?_) (fun c16 => ?_)
          · refine z_iconst F dX6_isWord_70 ?_
            exact hret _ _ 71 _ ⟨by omega, by omega⟩ ⟨hI, hW⟩ ⟨⟨by omega, by omega⟩, rfl⟩ dX6_isWord_71
          · refine z_aload_n F dX6_isWord_43 rfl (q := 0) rfl ?_
            refine rf_X6_22 F gs_18 rfl dX6_isWord_44 ?_
            refine z_aload_n F dX6_isWord_47 rfl (q := 0) rfl ?_
            refine gf_X6_57 F hI gs_18 rfl bd_18_6 dX6_isWord_48 (fun v17 ev17 av17 bv17 => ?_)
            have zv17 : u4 = v17 := eu4.trans ev17.symm
            subst zv17
            refine z_iload_n F dX6_isWord_51 rfl (q := 2) rfl ?_
            refine z_iadd F dX6_isWord_52 ?_
            have k18 : 0 ≤ (u4 + y14) ∧ (u4 + y14) ≤ 899 := by omega
            refine z_bald F hI gs_1 (by omega) (by omega) (by decide) bd_1 dX6_isWord_53 (fun v19 (ev19 : v19 = M 1 _) av19 bv19 => ?_)
            refine z_aload_n F dX6_isWord_54 rfl (q := 1) rfl ?_
            refine z_iload_n F dX6_isWord_55 rfl (q := 2) rfl ?_
            refine zvs_i (i := 25) (rest := [ii v19]) F (kS_chr l M ⟨hI, hW⟩ 25 (by decide) y14 (by omega) (show y14 < ((sbyt.getD 25 []).length : Int) from by rw [show ((sbyt.getD 25 []).length : Int) = 5 from by decide]; omega)) cs_X6_78 (by decide) (by decide) (by decide) rfl rfl rfl (Nat.le_of_ble_eq_true rfl) dX6_isWord_56 (fun v20 M9 rv20 hI9 pv20 => ?_)
            obtain ⟨⟨av20, bv20⟩, rfl⟩ := pv20
            clear hI9
            refine z_icmp_eq (tgt := 64) F dX6_isWord_59 (by decide +kernel) (by omega) (by omega) (fun c21 => ?_) (fun c21 => ?_)
            · refine z_iincN F dX6_isWord_64 (q := 2) rfl (by decide) (fun v22 ev22 => ?_)
              refine z_eq (ls' := [(2, ii v22), (0, .ref (ad 18)), (1, .ref (ad 1025))]) rfl rfl rfl ?_
              refine z_goto (tgt := 35) F dX6_isWord_67 (by decide +kernel) ?_
              refine z_loc [1, 2, 0] (ls' := [(0, .ref (ad 18)), (1, .ref (ad 1025)), (2, ii v22)]) rfl ?_
              exact ih35 v22 (by omega) (by omega) (by omega)
            · refine z_iconst F dX6_isWord_62 ?_
              exact hret _ _ 63 _ ⟨by omega, by omega⟩ ⟨hI, hW⟩ ⟨⟨by omega, by omega⟩, rfl⟩ dX6_isWord_63
      · refine z_iconst F dX6_isWord_31 ?_
        exact hret _ _ 32 _ ⟨by omega, by omega⟩ ⟨hI, hW⟩ ⟨⟨by omega, by omega⟩, rfl⟩ dX6_isWord_32
set_option maxHeartbeats 4000000 in
set_option maxRecDepth 4000 in
theorem kp_X6_isWord_18_1026 (l : Launch) (M : Mem) (hJ : Iw M) (hp0 : M 18 6 ≤ M 18 5 ∧ M 18 5 ≤ M 18 4) : CI l yX6_isWord cX6_isWord 3 (some .boolean) 5 (fun ad => [.ref (ad 18), .ref (ad 1026)]) M (fun z M' => (0 ≤ z ∧ z ≤ 1) ∧ M = M') := by
  obtain ⟨hI, hW⟩ := hJ
  refine en_z (by decide +kernel) (fun ad => by exact Nat.le_of_ble_eq_true rfl) (fun D cy ad A p e s m args below meth c Q F hret => ?_)
  refine z_eq (ls' := [(0, .ref (ad 18)), (1, .ref (ad 1026))]) rfl rfl rfl ?_
  obtain ⟨u1, eu1⟩ : ∃ v : Int, v = M 18 1 := ⟨_, rfl⟩
  have ku1 : (-2147483648) ≤ u1 ∧ u1 ≤ 2147483647 := by have := hI.at (show Bd 18 1 = (-2147483648, 2147483647) from rfl); omega
  obtain ⟨u2, eu2⟩ : ∃ v : Int, v = M 18 4 := ⟨_, rfl⟩
  have ku2 : 0 ≤ u2 ∧ u2 ≤ 900 := by have := hI.at (show Bd 18 4 = (0, 900) from rfl); omega
  obtain ⟨u3, eu3⟩ : ∃ v : Int, v = M 18 5 := ⟨_, rfl⟩
  have ku3 : 0 ≤ u3 ∧ u3 ≤ 900 := by have := hI.at (show Bd 18 5 = (0, 900) from rfl); omega
  obtain ⟨u4, eu4⟩ : ∃ v : Int, v = M 18 6 := ⟨_, rfl⟩
  have ku4 : 0 ≤ u4 ∧ u4 ≤ 900 := by have := hI.at (show Bd 18 6 = (0, 900) from rfl); omega
  refine z_aload_n F dX6_isWord_0 rfl (q := 0) rfl ?_
  refine gf_X6_36 F hI gs_18 rfl bd_18_1 dX6_isWord_1 (fun v5 ev5 av5 bv5 => ?_)
  have zv5 : u1 = v5 := eu1.trans ev5.symm
  subst zv5
  refine z_if_ne (tgt := 31) F dX6_isWord_4 (by decide +kernel) (by omega) (fun c6 => ?_) (fun c6 => ?_)
  · refine z_iconst F dX6_isWord_31 ?_
    exact hret _ _ 32 _ ⟨by omega, by omega⟩ ⟨hI, hW⟩ ⟨⟨by omega, by omega⟩, rfl⟩ dX6_isWord_32
  · refine z_aload_n F dX6_isWord_7 rfl (q := 0) rfl ?_
    refine gf_X6_48 F hI gs_18 rfl bd_18_7 dX6_isWord_8 (fun v7 ev7 av7 bv7 => ?_)
    refine z_iconst F dX6_isWord_11 ?_
    refine z_icmp_ne (tgt := 31) F dX6_isWord_12 (by decide +kernel) (by omega) (by omega) (fun c8 => ?_) (fun c8 => ?_)
    · refine z_iconst F dX6_isWord_31 ?_
      exact hret _ _ 32 _ ⟨by omega, by omega⟩ ⟨hI, hW⟩ ⟨⟨by omega, by omega⟩, rfl⟩ dX6_isWord_32
    · refine z_aload_n F dX6_isWord_15 rfl (q := 0) rfl ?_
      refine gf_X6_33 F hI gs_18 rfl bd_18_5 dX6_isWord_16 (fun v9 ev9 av9 bv9 => ?_)
      have zv9 : u3 = v9 := eu3.trans ev9.symm
      subst zv9
      refine z_aload_n F dX6_isWord_19 rfl (q := 0) rfl ?_
      refine gf_X6_57 F hI gs_18 rfl bd_18_6 dX6_isWord_20 (fun v10 ev10 av10 bv10 => ?_)
      have zv10 : u4 = v10 := eu4.trans ev10.symm
      subst zv10
      refine z_isub F dX6_isWord_23 ?_
      refine z_aload_n F dX6_isWord_24 rfl (q := 1) rfl ?_
      refine zvs_i (i := 26) (rest := [ii (u3 - u4)]) F (kS_len l M ⟨hI, hW⟩ 26 (by decide)) cs_X6_75 (by decide) (by decide) (by decide) rfl rfl rfl (Nat.le_of_ble_eq_true rfl) dX6_isWord_25 (fun v11 M9 rv11 hI9 pv11 => ?_)
      obtain ⟨ev11, rfl⟩ := pv11
      obtain rfl : v11 = 5 := ev11.trans (show ((sbyt.getD 26 []).length : Int) = 5 from by decide)
      clear hI9
      refine z_icmp_eq (tgt := 33) F dX6_isWord_28 (by decide +kernel) (by omega) (by omega) (fun c12 => ?_) (fun c12 => ?_)
      · refine z_iconst F dX6_isWord_33 ?_
        refine z_istore_n F dX6_isWord_34 rfl (by decide) (ls' := [(2, ii 0), (0, .ref (ad 18)), (1, .ref (ad 1026))]) rfl ?_
        refine z_loc [1, 2, 0] (ls' := [(0, .ref (ad 18)), (1, .ref (ad 1026)), (2, ii 0)]) rfl ?_
        suffices key35 : ∀ (n : Nat) (y14 : Int), 0 ≤ y14 → y14 ≤ 5 → 5 - y14 < (n : Int) → Z D cy ad p l e (RMh 5) s m args below meth c A 3 0 0 Q 35 [(0, .ref (ad 18)), (1, .ref (ad 1026)), (2, ii y14)] [] M from key35 6 0 (by omega) (by omega) (by omega)
        intro n35
        induction n35 with
        | zero => intro y14 ay14 by14 hn35; exfalso; omega
        | succ n35 ih35 =>
          intro y14 ay14 by14 hn35
          refine z_iload_n F dX6_isWord_35 rfl (q := 2) rfl ?_
          refine z_aload_n F dX6_isWord_36 rfl (q := 1) rfl ?_
          refine zvs_i (i := 26) (rest := [ii y14]) F (kS_len l M ⟨hI, hW⟩ 26 (by decide)) cs_X6_75 (by decide) (by decide) (by decide) rfl rfl rfl (Nat.le_of_ble_eq_true rfl) dX6_isWord_37 (fun v15 M9 rv15 hI9 pv15 => ?_)
          obtain ⟨ev15, rfl⟩ := pv15
          obtain rfl : v15 = 5 := ev15.trans (show ((sbyt.getD 26 []).length : Int) = 5 from by decide)
          clear hI9
          refine z_icmp_ge (tgt := 70) F dX6_isWord_40 (by decide +kernel) (by omega) (by omega) (fun c16 => ?_) (fun c16 => ?_)
          · refine z_iconst F dX6_isWord_70 ?_
            exact hret _ _ 71 _ ⟨by omega, by omega⟩ ⟨hI, hW⟩ ⟨⟨by omega, by omega⟩, rfl⟩ dX6_isWord_71
          · refine z_aload_n F dX6_isWord_43 rfl (q := 0) rfl ?_
            refine rf_X6_22 F gs_18 rfl dX6_isWord_44 ?_
            refine z_aload_n F dX6_isWord_47 rfl (q := 0) rfl ?_
            refine gf_X6_57 F hI gs_18 rfl bd_18_6 dX6_isWord_48 (fun v17 ev17 av17 bv17 => ?_)
            have zv17 : u4 = v17 := eu4.trans ev17.symm
            subst zv17
            refine z_iload_n F dX6_isWord_51 rfl (q := 2) rfl ?_
            refine z_iadd F dX6_isWord_52 ?_
            have k18 : 0 ≤ (u4 + y14) ∧ (u4 + y14) ≤ 899 := by omega
            refine z_bald F hI gs_1 (by omega) (by omega) (by decide) bd_1 dX6_isWord_53 (fun v19 (ev19 : v19 = M 1 _) av19 bv19 => ?_)
            refine z_aload_n F dX6_isWord_54 rfl (q := 1) rfl ?_
            refine z_iload_n F dX6_isWord_55 rfl (q := 2) rfl ?_
            refine zvs_i (i := 26) (rest := [ii v19]) F (kS_chr l M ⟨hI, hW⟩ 26 (by decide) y14 (by omega) (show y14 < ((sbyt.getD 26 []).length : Int) from by rw [show ((sbyt.getD 26 []).length : Int) = 5 from by decide]; omega)) cs_X6_78 (by decide) (by decide) (by decide) rfl rfl rfl (Nat.le_of_ble_eq_true rfl) dX6_isWord_56 (fun v20 M9 rv20 hI9 pv20 => ?_)
            obtain ⟨⟨av20, bv20⟩, rfl⟩ := pv20
            clear hI9
            refine z_icmp_eq (tgt := 64) F dX6_isWord_59 (by decide +kernel) (by omega) (by omega) (fun c21 => ?_) (fun c21 => ?_)
            · refine z_iincN F dX6_isWord_64 (q := 2) rfl (by decide) (fun v22 ev22 => ?_)
              refine z_eq (ls' := [(2, ii v22), (0, .ref (ad 18)), (1, .ref (ad 1026))]) rfl rfl rfl ?_
              refine z_goto (tgt := 35) F dX6_isWord_67 (by decide +kernel) ?_
              refine z_loc [1, 2, 0] (ls' := [(0, .ref (ad 18)), (1, .ref (ad 1026)), (2, ii v22)]) rfl ?_
              exact ih35 v22 (by omega) (by omega) (by omega)
            · refine z_iconst F dX6_isWord_62 ?_
              exact hret _ _ 63 _ ⟨by omega, by omega⟩ ⟨hI, hW⟩ ⟨⟨by omega, by omega⟩, rfl⟩ dX6_isWord_63
      · refine z_iconst F dX6_isWord_31 ?_
        exact hret _ _ 32 _ ⟨by omega, by omega⟩ ⟨hI, hW⟩ ⟨⟨by omega, by omega⟩, rfl⟩ dX6_isWord_32
set_option maxHeartbeats 4000000 in
set_option maxRecDepth 4000 in
theorem kp_X6_isWord_18_1004 (l : Launch) (M : Mem) (hJ : Iw M) (hp0 : M 18 6 ≤ M 18 5 ∧ M 18 5 ≤ M 18 4) : CI l yX6_isWord cX6_isWord 3 (some .boolean) 5 (fun ad => [.ref (ad 18), .ref (ad 1004)]) M (fun z M' => (0 ≤ z ∧ z ≤ 1) ∧ M = M') := by
  obtain ⟨hI, hW⟩ := hJ
  refine en_z (by decide +kernel) (fun ad => by exact Nat.le_of_ble_eq_true rfl) (fun D cy ad A p e s m args below meth c Q F hret => ?_)
  refine z_eq (ls' := [(0, .ref (ad 18)), (1, .ref (ad 1004))]) rfl rfl rfl ?_
  obtain ⟨u1, eu1⟩ : ∃ v : Int, v = M 18 1 := ⟨_, rfl⟩
  have ku1 : (-2147483648) ≤ u1 ∧ u1 ≤ 2147483647 := by have := hI.at (show Bd 18 1 = (-2147483648, 2147483647) from rfl); omega
  obtain ⟨u2, eu2⟩ : ∃ v : Int, v = M 18 4 := ⟨_, rfl⟩
  have ku2 : 0 ≤ u2 ∧ u2 ≤ 900 := by have := hI.at (show Bd 18 4 = (0, 900) from rfl); omega
  obtain ⟨u3, eu3⟩ : ∃ v : Int, v = M 18 5 := ⟨_, rfl⟩
  have ku3 : 0 ≤ u3 ∧ u3 ≤ 900 := by have := hI.at (show Bd 18 5 = (0, 900) from rfl); omega
  obtain ⟨u4, eu4⟩ : ∃ v : Int, v = M 18 6 := ⟨_, rfl⟩
  have ku4 : 0 ≤ u4 ∧ u4 ≤ 900 := by have := hI.at (show Bd 18 6 = (0, 900) from rfl); omega
  refine z_aload_n F dX6_isWord_0 rfl (q := 0) rfl ?_
  refine gf_X6_36 F hI gs_18 rfl bd_18_1 dX6_isWord_1 (fun v5 ev5 av5 bv5 => ?_)
  have zv5 : u1 = v5 := eu1.trans ev5.symm
  subst zv5
  refine z_if_ne (tgt := 31) F dX6_isWord_4 (by decide +kernel) (by omega) (fun c6 => ?_) (fun c6 => ?_)
  · refine z_iconst F dX6_isWord_31 ?_
    exact hret _ _ 32 _ ⟨by omega, by omega⟩ ⟨hI, hW⟩ ⟨⟨by omega, by omega⟩, rfl⟩ dX6_isWord_32
  · refine z_aload_n F dX6_isWord_7 rfl (q := 0) rfl ?_
    refine gf_X6_48 F hI gs_18 rfl bd_18_7 dX6_isWord_8 (fun v7 ev7 av7 bv7 => ?_)
    refine z_iconst F dX6_isWord_11 ?_
    refine z_icmp_ne (tgt := 31) F dX6_isWord_12 (by decide +kernel) (by omega) (by omega) (fun c8 => ?_) (fun c8 => ?_)
    · refine z_iconst F dX6_isWord_31 ?_
      exact hret _ _ 32 _ ⟨by omega, by omega⟩ ⟨hI, hW⟩ ⟨⟨by omega, by omega⟩, rfl⟩ dX6_isWord_32
    · refine z_aload_n F dX6_isWord_15 rfl (q := 0) rfl ?_
      refine gf_X6_33 F hI gs_18 rfl bd_18_5 dX6_isWord_16 (fun v9 ev9 av9 bv9 => ?_)
      have zv9 : u3 = v9 := eu3.trans ev9.symm
      subst zv9
      refine z_aload_n F dX6_isWord_19 rfl (q := 0) rfl ?_
      refine gf_X6_57 F hI gs_18 rfl bd_18_6 dX6_isWord_20 (fun v10 ev10 av10 bv10 => ?_)
      have zv10 : u4 = v10 := eu4.trans ev10.symm
      subst zv10
      refine z_isub F dX6_isWord_23 ?_
      refine z_aload_n F dX6_isWord_24 rfl (q := 1) rfl ?_
      refine zvs_i (i := 4) (rest := [ii (u3 - u4)]) F (kS_len l M ⟨hI, hW⟩ 4 (by decide)) cs_X6_75 (by decide) (by decide) (by decide) rfl rfl rfl (Nat.le_of_ble_eq_true rfl) dX6_isWord_25 (fun v11 M9 rv11 hI9 pv11 => ?_)
      obtain ⟨ev11, rfl⟩ := pv11
      obtain rfl : v11 = 4 := ev11.trans (show ((sbyt.getD 4 []).length : Int) = 4 from by decide)
      clear hI9
      refine z_icmp_eq (tgt := 33) F dX6_isWord_28 (by decide +kernel) (by omega) (by omega) (fun c12 => ?_) (fun c12 => ?_)
      · refine z_iconst F dX6_isWord_33 ?_
        refine z_istore_n F dX6_isWord_34 rfl (by decide) (ls' := [(2, ii 0), (0, .ref (ad 18)), (1, .ref (ad 1004))]) rfl ?_
        refine z_loc [1, 2, 0] (ls' := [(0, .ref (ad 18)), (1, .ref (ad 1004)), (2, ii 0)]) rfl ?_
        suffices key35 : ∀ (n : Nat) (y14 : Int), 0 ≤ y14 → y14 ≤ 4 → 4 - y14 < (n : Int) → Z D cy ad p l e (RMh 5) s m args below meth c A 3 0 0 Q 35 [(0, .ref (ad 18)), (1, .ref (ad 1004)), (2, ii y14)] [] M from key35 5 0 (by omega) (by omega) (by omega)
        intro n35
        induction n35 with
        | zero => intro y14 ay14 by14 hn35; exfalso; omega
        | succ n35 ih35 =>
          intro y14 ay14 by14 hn35
          refine z_iload_n F dX6_isWord_35 rfl (q := 2) rfl ?_
          refine z_aload_n F dX6_isWord_36 rfl (q := 1) rfl ?_
          refine zvs_i (i := 4) (rest := [ii y14]) F (kS_len l M ⟨hI, hW⟩ 4 (by decide)) cs_X6_75 (by decide) (by decide) (by decide) rfl rfl rfl (Nat.le_of_ble_eq_true rfl) dX6_isWord_37 (fun v15 M9 rv15 hI9 pv15 => ?_)
          obtain ⟨ev15, rfl⟩ := pv15
          obtain rfl : v15 = 4 := ev15.trans (show ((sbyt.getD 4 []).length : Int) = 4 from by decide)
          clear hI9
          refine z_icmp_ge (tgt := 70) F dX6_isWord_40 (by decide +kernel) (by omega) (by omega) (fun c16 => ?_) (fun c16 => ?_)
          · refine z_iconst F dX6_isWord_70 ?_
            exact hret _ _ 71 _ ⟨by omega, by omega⟩ ⟨hI, hW⟩ ⟨⟨by omega, by omega⟩, rfl⟩ dX6_isWord_71
          · refine z_aload_n F dX6_isWord_43 rfl (q := 0) rfl ?_
            refine rf_X6_22 F gs_18 rfl dX6_isWord_44 ?_
            refine z_aload_n F dX6_isWord_47 rfl (q := 0) rfl ?_
            refine gf_X6_57 F hI gs_18 rfl bd_18_6 dX6_isWord_48 (fun v17 ev17 av17 bv17 => ?_)
            have zv17 : u4 = v17 := eu4.trans ev17.symm
            subst zv17
            refine z_iload_n F dX6_isWord_51 rfl (q := 2) rfl ?_
            refine z_iadd F dX6_isWord_52 ?_
            have k18 : 0 ≤ (u4 + y14) ∧ (u4 + y14) ≤ 899 := by omega
            refine z_bald F hI gs_1 (by omega) (by omega) (by decide) bd_1 dX6_isWord_53 (fun v19 (ev19 : v19 = M 1 _) av19 bv19 => ?_)
            refine z_aload_n F dX6_isWord_54 rfl (q := 1) rfl ?_
            refine z_iload_n F dX6_isWord_55 rfl (q := 2) rfl ?_
            refine zvs_i (i := 4) (rest := [ii v19]) F (kS_chr l M ⟨hI, hW⟩ 4 (by decide) y14 (by omega) (show y14 < ((sbyt.getD 4 []).length : Int) from by rw [show ((sbyt.getD 4 []).length : Int) = 4 from by decide]; omega)) cs_X6_78 (by decide) (by decide) (by decide) rfl rfl rfl (Nat.le_of_ble_eq_true rfl) dX6_isWord_56 (fun v20 M9 rv20 hI9 pv20 => ?_)
            obtain ⟨⟨av20, bv20⟩, rfl⟩ := pv20
            clear hI9
            refine z_icmp_eq (tgt := 64) F dX6_isWord_59 (by decide +kernel) (by omega) (by omega) (fun c21 => ?_) (fun c21 => ?_)
            · refine z_iincN F dX6_isWord_64 (q := 2) rfl (by decide) (fun v22 ev22 => ?_)
              refine z_eq (ls' := [(2, ii v22), (0, .ref (ad 18)), (1, .ref (ad 1004))]) rfl rfl rfl ?_
              refine z_goto (tgt := 35) F dX6_isWord_67 (by decide +kernel) ?_
              refine z_loc [1, 2, 0] (ls' := [(0, .ref (ad 18)), (1, .ref (ad 1004)), (2, ii v22)]) rfl ?_
              exact ih35 v22 (by omega) (by omega) (by omega)
            · refine z_iconst F dX6_isWord_62 ?_
              exact hret _ _ 63 _ ⟨by omega, by omega⟩ ⟨hI, hW⟩ ⟨⟨by omega, by omega⟩, rfl⟩ dX6_isWord_63
      · refine z_iconst F dX6_isWord_31 ?_
        exact hret _ _ 32 _ ⟨by omega, by omega⟩ ⟨hI, hW⟩ ⟨⟨by omega, by omega⟩, rfl⟩ dX6_isWord_32
set_option maxHeartbeats 4000000 in
set_option maxRecDepth 4000 in
theorem kp_X6_nameHere_18 (l : Launch) (M : Mem) (hJ : Iw M) (hp0 : M 18 6 ≤ M 18 5 ∧ M 18 5 ≤ M 18 4) : CI l yX6_nameHere cX6_nameHere 1 (some .int) 6 (fun ad => [.ref (ad 18)]) M (fun z M' => ((-8) ≤ z ∧ z ≤ 0) ∧ M = M') := by
  obtain ⟨hI, hW⟩ := hJ
  refine en_i (by decide +kernel) (fun ad => by exact Nat.le_of_ble_eq_true rfl) (fun D cy ad A p e s m args below meth c Q F hret => ?_)
  refine z_eq (ls' := [(0, .ref (ad 18))]) rfl rfl rfl ?_
  refine z_aload_n F dX6_nameHere_0 rfl (q := 0) rfl ?_
  refine z_ldcSW (j := 20) F dX6_nameHere_1 rfl rfl rfl ?_
  refine z_eq (st' := [.ref (ad 1020), .ref (ad 18)]) rfl rfl rfl ?_
  refine zv_i (rest := []) F (kp_X6_isWord_18_1020 l M ⟨hI, hW⟩ (by omega)) cs_X6_86 (T := TX6) (N := 9) (ci := 6) rfl gs_18 (by decide) (by decide) rfl rfl rfl (Nat.le_of_ble_eq_true rfl) dX6_nameHere_4 (fun v1 M2 rv1 hI p3 => ?_)
  obtain ⟨hI, hW⟩ := hI
  obtain ⟨⟨av1, bv1⟩, rfl⟩ := p3
  refine z_if_eq (tgt := 12) F dX6_nameHere_7 (by decide +kernel) (by omega) (fun c4 => ?_) (fun c4 => ?_)
  · refine z_aload_n F dX6_nameHere_12 rfl (q := 0) rfl ?_
    refine z_ldcSW (j := 21) F dX6_nameHere_13 rfl rfl rfl ?_
    refine z_eq (st' := [.ref (ad 1021), .ref (ad 18)]) rfl rfl rfl ?_
    refine zv_i (rest := []) F (kp_X6_isWord_18_1021 l M ⟨hI, hW⟩ (by omega)) cs_X6_86 (T := TX6) (N := 9) (ci := 6) rfl gs_18 (by decide) (by decide) rfl rfl rfl (Nat.le_of_ble_eq_true rfl) dX6_nameHere_16 (fun v5 M6 rv5 hI p7 => ?_)
    obtain ⟨hI, hW⟩ := hI
    obtain ⟨⟨av5, bv5⟩, rfl⟩ := p7
    refine z_if_eq (tgt := 25) F dX6_nameHere_19 (by decide +kernel) (by omega) (fun c8 => ?_) (fun c8 => ?_)
    · refine z_aload_n F dX6_nameHere_25 rfl (q := 0) rfl ?_
      refine z_ldcSW (j := 22) F dX6_nameHere_26 rfl rfl rfl ?_
      refine z_eq (st' := [.ref (ad 1022), .ref (ad 18)]) rfl rfl rfl ?_
      refine zv_i (rest := []) F (kp_X6_isWord_18_1022 l M ⟨hI, hW⟩ (by omega)) cs_X6_86 (T := TX6) (N := 9) (ci := 6) rfl gs_18 (by decide) (by decide) rfl rfl rfl (Nat.le_of_ble_eq_true rfl) dX6_nameHere_29 (fun v9 M10 rv9 hI p11 => ?_)
      obtain ⟨hI, hW⟩ := hI
      obtain ⟨⟨av9, bv9⟩, rfl⟩ := p11
      refine z_if_eq (tgt := 38) F dX6_nameHere_32 (by decide +kernel) (by omega) (fun c12 => ?_) (fun c12 => ?_)
      · refine z_aload_n F dX6_nameHere_38 rfl (q := 0) rfl ?_
        refine z_ldcSW (j := 23) F dX6_nameHere_39 rfl rfl rfl ?_
        refine z_eq (st' := [.ref (ad 1023), .ref (ad 18)]) rfl rfl rfl ?_
        refine zv_i (rest := []) F (kp_X6_isWord_18_1023 l M ⟨hI, hW⟩ (by omega)) cs_X6_86 (T := TX6) (N := 9) (ci := 6) rfl gs_18 (by decide) (by decide) rfl rfl rfl (Nat.le_of_ble_eq_true rfl) dX6_nameHere_42 (fun v13 M14 rv13 hI p15 => ?_)
        obtain ⟨hI, hW⟩ := hI
        obtain ⟨⟨av13, bv13⟩, rfl⟩ := p15
        refine z_if_eq (tgt := 51) F dX6_nameHere_45 (by decide +kernel) (by omega) (fun c16 => ?_) (fun c16 => ?_)
        · refine z_aload_n F dX6_nameHere_51 rfl (q := 0) rfl ?_
          refine z_ldcSW (j := 24) F dX6_nameHere_52 rfl rfl rfl ?_
          refine z_eq (st' := [.ref (ad 1024), .ref (ad 18)]) rfl rfl rfl ?_
          refine zv_i (rest := []) F (kp_X6_isWord_18_1024 l M ⟨hI, hW⟩ (by omega)) cs_X6_86 (T := TX6) (N := 9) (ci := 6) rfl gs_18 (by decide) (by decide) rfl rfl rfl (Nat.le_of_ble_eq_true rfl) dX6_nameHere_55 (fun v17 M18 rv17 hI p19 => ?_)
          obtain ⟨hI, hW⟩ := hI
          obtain ⟨⟨av17, bv17⟩, rfl⟩ := p19
          refine z_if_eq (tgt := 64) F dX6_nameHere_58 (by decide +kernel) (by omega) (fun c20 => ?_) (fun c20 => ?_)
          · refine z_aload_n F dX6_nameHere_64 rfl (q := 0) rfl ?_
            refine z_ldcSW (j := 25) F dX6_nameHere_65 rfl rfl rfl ?_
            refine z_eq (st' := [.ref (ad 1025), .ref (ad 18)]) rfl rfl rfl ?_
            refine zv_i (rest := []) F (kp_X6_isWord_18_1025 l M ⟨hI, hW⟩ (by omega)) cs_X6_86 (T := TX6) (N := 9) (ci := 6) rfl gs_18 (by decide) (by decide) rfl rfl rfl (Nat.le_of_ble_eq_true rfl) dX6_nameHere_68 (fun v21 M22 rv21 hI p23 => ?_)
            obtain ⟨hI, hW⟩ := hI
            obtain ⟨⟨av21, bv21⟩, rfl⟩ := p23
            refine z_if_eq (tgt := 77) F dX6_nameHere_71 (by decide +kernel) (by omega) (fun c24 => ?_) (fun c24 => ?_)
            · refine z_aload_n F dX6_nameHere_77 rfl (q := 0) rfl ?_
              refine z_ldcSW (j := 26) F dX6_nameHere_78 rfl rfl rfl ?_
              refine z_eq (st' := [.ref (ad 1026), .ref (ad 18)]) rfl rfl rfl ?_
              refine zv_i (rest := []) F (kp_X6_isWord_18_1026 l M ⟨hI, hW⟩ (by omega)) cs_X6_86 (T := TX6) (N := 9) (ci := 6) rfl gs_18 (by decide) (by decide) rfl rfl rfl (Nat.le_of_ble_eq_true rfl) dX6_nameHere_81 (fun v25 M26 rv25 hI p27 => ?_)
              obtain ⟨hI, hW⟩ := hI
              obtain ⟨⟨av25, bv25⟩, rfl⟩ := p27
              refine z_if_eq (tgt := 90) F dX6_nameHere_84 (by decide +kernel) (by omega) (fun c28 => ?_) (fun c28 => ?_)
              · refine z_aload_n F dX6_nameHere_90 rfl (q := 0) rfl ?_
                refine z_ldcS (j := 4) F dX6_nameHere_91 rfl rfl rfl ?_
                refine z_eq (st' := [.ref (ad 1004), .ref (ad 18)]) rfl rfl rfl ?_
                refine zv_i (rest := []) F (kp_X6_isWord_18_1004 l M ⟨hI, hW⟩ (by omega)) cs_X6_86 (T := TX6) (N := 9) (ci := 6) rfl gs_18 (by decide) (by decide) rfl rfl rfl (Nat.le_of_ble_eq_true rfl) dX6_nameHere_93 (fun v29 M30 rv29 hI p31 => ?_)
                obtain ⟨hI, hW⟩ := hI
                obtain ⟨⟨av29, bv29⟩, rfl⟩ := p31
                refine z_if_eq (tgt := 102) F dX6_nameHere_96 (by decide +kernel) (by omega) (fun c32 => ?_) (fun c32 => ?_)
                · refine z_iconst F dX6_nameHere_102 ?_
                  exact hret _ _ 103 _ (by omega) ⟨hI, hW⟩ ⟨⟨by omega, by omega⟩, rfl⟩ dX6_nameHere_103
                · refine z_bipush F dX6_nameHere_99 (by decide +kernel) ?_
                  exact hret _ _ 101 _ (by omega) ⟨hI, hW⟩ ⟨⟨by omega, by omega⟩, rfl⟩ dX6_nameHere_101
              · refine z_bipush F dX6_nameHere_87 (by decide +kernel) ?_
                exact hret _ _ 89 _ (by omega) ⟨hI, hW⟩ ⟨⟨by omega, by omega⟩, rfl⟩ dX6_nameHere_89
            · refine z_bipush F dX6_nameHere_74 (by decide +kernel) ?_
              exact hret _ _ 76 _ (by omega) ⟨hI, hW⟩ ⟨⟨by omega, by omega⟩, rfl⟩ dX6_nameHere_76
          · refine z_bipush F dX6_nameHere_61 (by decide +kernel) ?_
            exact hret _ _ 63 _ (by omega) ⟨hI, hW⟩ ⟨⟨by omega, by omega⟩, rfl⟩ dX6_nameHere_63
        · refine z_bipush F dX6_nameHere_48 (by decide +kernel) ?_
          exact hret _ _ 50 _ (by omega) ⟨hI, hW⟩ ⟨⟨by omega, by omega⟩, rfl⟩ dX6_nameHere_50
      · refine z_bipush F dX6_nameHere_35 (by decide +kernel) ?_
        exact hret _ _ 37 _ (by omega) ⟨hI, hW⟩ ⟨⟨by omega, by omega⟩, rfl⟩ dX6_nameHere_37
    · refine z_bipush F dX6_nameHere_22 (by decide +kernel) ?_
      exact hret _ _ 24 _ (by omega) ⟨hI, hW⟩ ⟨⟨by omega, by omega⟩, rfl⟩ dX6_nameHere_24
  · refine z_iconst F dX6_nameHere_10 ?_
    exact hret _ _ 11 _ (by omega) ⟨hI, hW⟩ ⟨⟨by omega, by omega⟩, rfl⟩ dX6_nameHere_11
set_option maxHeartbeats 4000000 in
set_option maxRecDepth 4000 in
theorem kp_X6_readAtom_18 (l : Launch) (nr : Nat) (ih : RdX l nr) : ∀ (M : Mem) (hJ : Iw M) (x0 : Int) (hx0a : 0 ≤ x0) (hx0b : x0 ≤ 6) (hp0 : M 18 6 ≤ M 18 5 ∧ M 18 5 ≤ M 18 4) (hmu : (6 - x0) * 8 + 1 < ((nr + 1 : Nat) : Int)), CV l yX6_readAtom cX6_readAtom 3 none (12 + (nr + 1)) (fun ad => [.ref (ad 18), ii x0]) M (fun M' => Fr [18, 31, 32] M M' ∧ (M' 18 4 = M 18 4 ∧ M' 18 6 ≤ M' 18 5 ∧ M' 18 5 ≤ M' 18 4)) := by
  intro M hJ x0 hx0a hx0b hp0 hmu
  obtain ⟨hI, hW⟩ := hJ
  have hF : Fr [18, 31, 32] M M := Fr.rf
  refine en_v (by decide +kernel) (fun ad => by exact Nat.le_of_ble_eq_true rfl) (fun D cy ad A p e s m args below meth c Q F hret => ?_)
  refine z_eq (ls' := [(0, .ref (ad 18)), (1, ii x0)]) rfl rfl rfl ?_
  refine z_aload_n F dX6_readAtom_0 rfl (q := 0) rfl ?_
  refine zv_i (rest := []) F (kp_X6_nameHere_18 l M ⟨hI, hW⟩ (by omega)) cs_X6_268 (T := TX6) (N := 9) (ci := 6) rfl gs_18 (by omega) (by decide) rfl rfl rfl (Nat.le_of_ble_eq_true rfl) dX6_readAtom_1 (fun v1 M2 rv1 hI p3 => ?_)
  obtain ⟨hI, hW⟩ := hI
  obtain ⟨⟨av1, bv1⟩, rfl⟩ := p3
  refine z_istore_n F dX6_readAtom_4 rfl (by decide) (ls' := [(2, ii v1), (0, .ref (ad 18)), (1, ii x0)]) rfl ?_
  refine z_aload_n F dX6_readAtom_5 rfl (q := 1) rfl ?_
  refine z_bipush F dX6_readAtom_6 (by decide +kernel) ?_
  refine zv_i (rest := []) F (kp_X6_isSign_18 l M ⟨hI, hW⟩ 40 (by omega) (by omega)) cs_X6_93 (T := TX6) (N := 9) (ci := 6) rfl gs_18 (by omega) (by decide) rfl rfl rfl (Nat.le_of_ble_eq_true rfl) dX6_readAtom_8 (fun v4 M5 rv4 hI p6 => ?_)
  obtain ⟨hI, hW⟩ := hI
  obtain ⟨⟨av4, bv4⟩, rfl⟩ := p6
  refine z_if_eq (tgt := 38) F dX6_readAtom_11 (by decide +kernel) (by omega) (fun c7 => ?_) (fun c7 => ?_)
  · refine z_iload_n F dX6_readAtom_38 rfl (q := 0) rfl ?_
    refine z_if_eq (tgt := 60) F dX6_readAtom_39 (by decide +kernel) (by omega) (fun c8 => ?_) (fun c8 => ?_)
    · refine z_aload_n F dX6_readAtom_60 rfl (q := 1) rfl ?_
      refine gf_X6_36 F hI gs_18 rfl bd_18_1 dX6_readAtom_61 (fun v9 ev9 av9 bv9 => ?_)
      refine z_if_ne (tgt := 96) F dX6_readAtom_64 (by decide +kernel) (by omega) (fun c10 => ?_) (fun c10 => ?_)
      · refine z_aload_n F dX6_readAtom_96 rfl (q := 1) rfl ?_
        refine zv_v (rest := []) F (kp_X6_refuse_18 l M ⟨hI, hW⟩) cs_X6_90 (T := TX6) (N := 9) (ci := 6) rfl gs_18 (by omega) (by decide) rfl rfl rfl (Nat.le_of_ble_eq_true rfl) dX6_readAtom_97 (fun M11 hI p12 => ?_)
        obtain ⟨hI, hW⟩ := hI
        obtain ⟨fp12, xp12⟩ := p12
        have hF := hF.call fp12 (by decide)
        exact hret _ 100 _ ⟨hI, hW⟩ ⟨hF, (by omega)⟩ dX6_readAtom_100
      · refine z_aload_n F dX6_readAtom_67 rfl (q := 1) rfl ?_
        refine gf_X6_48 F hI gs_18 rfl bd_18_7 dX6_readAtom_68 (fun v13 ev13 av13 bv13 => ?_)
        refine z_iconst F dX6_readAtom_71 ?_
        refine z_icmp_ne (tgt := 96) F dX6_readAtom_72 (by decide +kernel) (by omega) (by omega) (fun c14 => ?_) (fun c14 => ?_)
        · refine z_aload_n F dX6_readAtom_96 rfl (q := 1) rfl ?_
          refine zv_v (rest := []) F (kp_X6_refuse_18 l M ⟨hI, hW⟩) cs_X6_90 (T := TX6) (N := 9) (ci := 6) rfl gs_18 (by omega) (by decide) rfl rfl rfl (Nat.le_of_ble_eq_true rfl) dX6_readAtom_97 (fun M15 hI p16 => ?_)
          obtain ⟨hI, hW⟩ := hI
          obtain ⟨fp16, xp16⟩ := p16
          have hF := hF.call fp16 (by decide)
          exact hret _ 100 _ ⟨hI, hW⟩ ⟨hF, (by omega)⟩ dX6_readAtom_100
        · refine z_aload_n F dX6_readAtom_75 rfl (q := 1) rfl ?_
          refine rf_X6_12 F gs_18 rfl dX6_readAtom_76 ?_
          refine rf_X6_152 F gs_19 rfl dX6_readAtom_79 ?_
          refine z_aload_n F dX6_readAtom_82 rfl (q := 1) rfl ?_
          refine gf_X6_60 F hI gs_18 rfl bd_18_8 dX6_readAtom_83 (fun v17 ev17 av17 bv17 => ?_)
          refine zv_v (rest := []) F (k_X2_append_31 l M ⟨hI, hW⟩ v17 (by omega) (by omega)) cs_X6_239 (T := TX2) (N := 5) (ci := 2) rfl gs_31 (by omega) (by decide) rfl rfl rfl (Nat.le_of_ble_eq_true rfl) dX6_readAtom_86 (fun M18 hI p19 => ?_)
          obtain ⟨hI, hW⟩ := hI
          have fp19 := p19
          have hF := hF.call fp19 (by decide)
          have tM18_18_1 : M18 18 1 = M 18 1 := fp19.at (by decide)
          have tM18_18_4 : M18 18 4 = M 18 4 := fp19.at (by decide)
          have tM18_18_5 : M18 18 5 = M 18 5 := fp19.at (by decide)
          have tM18_18_6 : M18 18 6 = M 18 6 := fp19.at (by decide)
          refine z_aload_n F dX6_readAtom_89 rfl (q := 1) rfl ?_
          refine zv_v (rest := []) F (kp_X6_advance_18 l M18 ⟨hI, hW⟩ (by omega)) cs_X6_42 (T := TX6) (N := 9) (ci := 6) rfl gs_18 (by omega) (by decide) rfl rfl rfl (Nat.le_of_ble_eq_true rfl) dX6_readAtom_90 (fun M20 hI p21 => ?_)
          obtain ⟨hI, hW⟩ := hI
          obtain ⟨fp21, xp21⟩ := p21
          have hF := hF.call fp21 (by decide)
          refine z_goto (tgt := 100) F dX6_readAtom_93 (by decide +kernel) ?_
          exact hret _ 100 _ ⟨hI, hW⟩ ⟨hF, (by omega)⟩ dX6_readAtom_100
    · refine z_aload_n F dX6_readAtom_42 rfl (q := 1) rfl ?_
      refine rf_X6_12 F gs_18 rfl dX6_readAtom_43 ?_
      refine rf_X6_152 F gs_19 rfl dX6_readAtom_46 ?_
      refine z_iload_n F dX6_readAtom_49 rfl (q := 0) rfl ?_
      refine zv_v (rest := []) F (k_X2_append_31 l M ⟨hI, hW⟩ v1 (by omega) (by omega)) cs_X6_239 (T := TX2) (N := 5) (ci := 2) rfl gs_31 (by omega) (by decide) rfl rfl rfl (Nat.le_of_ble_eq_true rfl) dX6_readAtom_50 (fun M22 hI p23 => ?_)
      obtain ⟨hI, hW⟩ := hI
      have fp23 := p23
      have hF := hF.call fp23 (by decide)
      have tM22_18_1 : M22 18 1 = M 18 1 := fp23.at (by decide)
      have tM22_18_4 : M22 18 4 = M 18 4 := fp23.at (by decide)
      have tM22_18_5 : M22 18 5 = M 18 5 := fp23.at (by decide)
      have tM22_18_6 : M22 18 6 = M 18 6 := fp23.at (by decide)
      refine z_aload_n F dX6_readAtom_53 rfl (q := 1) rfl ?_
      refine zv_v (rest := []) F (kp_X6_advance_18 l M22 ⟨hI, hW⟩ (by omega)) cs_X6_42 (T := TX6) (N := 9) (ci := 6) rfl gs_18 (by omega) (by decide) rfl rfl rfl (Nat.le_of_ble_eq_true rfl) dX6_readAtom_54 (fun M24 hI p25 => ?_)
      obtain ⟨hI, hW⟩ := hI
      obtain ⟨fp25, xp25⟩ := p25
      have hF := hF.call fp25 (by decide)
      refine z_goto (tgt := 100) F dX6_readAtom_57 (by decide +kernel) ?_
      exact hret _ 100 _ ⟨hI, hW⟩ ⟨hF, (by omega)⟩ dX6_readAtom_100
  · refine z_aload_n F dX6_readAtom_14 rfl (q := 1) rfl ?_
    refine z_iload_n F dX6_readAtom_15 rfl (q := 2) rfl ?_
    refine zv_i (rest := []) F (kp_X6_goDeeper_18 l M ⟨hI, hW⟩ x0 (by omega) (by omega) (by omega)) cs_X6_249 (T := TX6) (N := 9) (ci := 6) rfl gs_18 (by omega) (by decide) rfl rfl rfl (Nat.le_of_ble_eq_true rfl) dX6_readAtom_16 (fun v26 M27 rv26 hI p28 => ?_)
    obtain ⟨hI, hW⟩ := hI
    obtain ⟨⟨av26, bv26⟩, fp28, xp28⟩ := p28
    have hF := hF.call fp28 (by decide)
    refine z_if_eq (tgt := 100) F dX6_readAtom_19 (by decide +kernel) (by omega) (fun c29 => ?_) (fun c29 => ?_)
    · exact hret _ 100 _ ⟨hI, hW⟩ ⟨hF, (by omega)⟩ dX6_readAtom_100
    · refine z_aload_n F dX6_readAtom_22 rfl (q := 1) rfl ?_
      refine z_iload_n F dX6_readAtom_23 rfl (q := 2) rfl ?_
      refine z_iconst F dX6_readAtom_24 ?_
      refine z_iadd F dX6_readAtom_25 ?_
      refine zv_v (rest := []) F (ih.2.2.2.1 M27 ⟨hI, hW⟩ (x0 + 1) (by omega) (by omega) (by omega) (by omega)) cs_X6_253 (T := TX6) (N := 9) (ci := 6) rfl gs_18 (by omega) (by decide) rfl rfl rfl (Nat.le_of_ble_eq_true rfl) dX6_readAtom_26 (fun M30 hI p31 => ?_)
      obtain ⟨hI, hW⟩ := hI
      obtain ⟨fp31, xp31⟩ := p31
      have hF := hF.call fp31 (by decide)
      refine z_aload_n F dX6_readAtom_29 rfl (q := 1) rfl ?_
      refine z_bipush F dX6_readAtom_30 (by decide +kernel) ?_
      refine zv_v (rest := []) F (kp_X6_needSign_18 l M30 ⟨hI, hW⟩ 41 (by omega) (by omega) (by omega)) cs_X6_120 (T := TX6) (N := 9) (ci := 6) rfl gs_18 (by omega) (by decide) rfl rfl rfl (Nat.le_of_ble_eq_true rfl) dX6_readAtom_32 (fun M32 hI p33 => ?_)
      obtain ⟨hI, hW⟩ := hI
      obtain ⟨fp33, xp33⟩ := p33
      have hF := hF.call fp33 (by decide)
      refine z_goto (tgt := 100) F dX6_readAtom_35 (by decide +kernel) ?_
      exact hret _ 100 _ ⟨hI, hW⟩ ⟨hF, (by omega)⟩ dX6_readAtom_100
theorem RdX_all (l : Launch) : ∀ nr : Nat, RdX l nr := by
  intro nr
  induction nr with
  | zero => exact ⟨fun M hJ x0 hx0a hx0b hp0 hmu => by exfalso; omega, fun M hJ x0 hx0a hx0b hp0 hmu => by exfalso; omega, fun M hJ x0 hx0a hx0b hp0 hmu => by exfalso; omega, fun M hJ x0 hx0a hx0b hp0 hmu => by exfalso; omega, fun M hJ x0 hx0a hx0b hp0 hmu => by exfalso; omega, fun M hJ x0 hx0a hx0b hp0 hmu => by exfalso; omega⟩
  | succ nr ih => exact ⟨kp_X6_readTruth_18 l nr ih, kp_X6_readBoth_18 l nr ih, kp_X6_readUnit_18 l nr ih, kp_X6_readSum_18 l nr ih, kp_X6_readTerm_18 l nr ih, kp_X6_readAtom_18 l nr ih⟩
set_option maxHeartbeats 4000000 in
set_option maxRecDepth 4000 in
theorem kp_X6_isWord_18_1003 (l : Launch) (M : Mem) (hJ : Iw M) (hp0 : M 18 6 ≤ M 18 5 ∧ M 18 5 ≤ M 18 4) : CI l yX6_isWord cX6_isWord 3 (some .boolean) 5 (fun ad => [.ref (ad 18), .ref (ad 1003)]) M (fun z M' => (0 ≤ z ∧ z ≤ 1) ∧ M = M') := by
  obtain ⟨hI, hW⟩ := hJ
  refine en_z (by decide +kernel) (fun ad => by exact Nat.le_of_ble_eq_true rfl) (fun D cy ad A p e s m args below meth c Q F hret => ?_)
  refine z_eq (ls' := [(0, .ref (ad 18)), (1, .ref (ad 1003))]) rfl rfl rfl ?_
  obtain ⟨u1, eu1⟩ : ∃ v : Int, v = M 18 1 := ⟨_, rfl⟩
  have ku1 : (-2147483648) ≤ u1 ∧ u1 ≤ 2147483647 := by have := hI.at (show Bd 18 1 = (-2147483648, 2147483647) from rfl); omega
  obtain ⟨u2, eu2⟩ : ∃ v : Int, v = M 18 4 := ⟨_, rfl⟩
  have ku2 : 0 ≤ u2 ∧ u2 ≤ 900 := by have := hI.at (show Bd 18 4 = (0, 900) from rfl); omega
  obtain ⟨u3, eu3⟩ : ∃ v : Int, v = M 18 5 := ⟨_, rfl⟩
  have ku3 : 0 ≤ u3 ∧ u3 ≤ 900 := by have := hI.at (show Bd 18 5 = (0, 900) from rfl); omega
  obtain ⟨u4, eu4⟩ : ∃ v : Int, v = M 18 6 := ⟨_, rfl⟩
  have ku4 : 0 ≤ u4 ∧ u4 ≤ 900 := by have := hI.at (show Bd 18 6 = (0, 900) from rfl); omega
  refine z_aload_n F dX6_isWord_0 rfl (q := 0) rfl ?_
  refine gf_X6_36 F hI gs_18 rfl bd_18_1 dX6_isWord_1 (fun v5 ev5 av5 bv5 => ?_)
  have zv5 : u1 = v5 := eu1.trans ev5.symm
  subst zv5
  refine z_if_ne (tgt := 31) F dX6_isWord_4 (by decide +kernel) (by omega) (fun c6 => ?_) (fun c6 => ?_)
  · refine z_iconst F dX6_isWord_31 ?_
    exact hret _ _ 32 _ ⟨by omega, by omega⟩ ⟨hI, hW⟩ ⟨⟨by omega, by omega⟩, rfl⟩ dX6_isWord_32
  · refine z_aload_n F dX6_isWord_7 rfl (q := 0) rfl ?_
    refine gf_X6_48 F hI gs_18 rfl bd_18_7 dX6_isWord_8 (fun v7 ev7 av7 bv7 => ?_)
    refine z_iconst F dX6_isWord_11 ?_
    refine z_icmp_ne (tgt := 31) F dX6_isWord_12 (by decide +kernel) (by omega) (by omega) (fun c8 => ?_) (fun c8 => ?_)
    · refine z_iconst F dX6_isWord_31 ?_
      exact hret _ _ 32 _ ⟨by omega, by omega⟩ ⟨hI, hW⟩ ⟨⟨by omega, by omega⟩, rfl⟩ dX6_isWord_32
    · refine z_aload_n F dX6_isWord_15 rfl (q := 0) rfl ?_
      refine gf_X6_33 F hI gs_18 rfl bd_18_5 dX6_isWord_16 (fun v9 ev9 av9 bv9 => ?_)
      have zv9 : u3 = v9 := eu3.trans ev9.symm
      subst zv9
      refine z_aload_n F dX6_isWord_19 rfl (q := 0) rfl ?_
      refine gf_X6_57 F hI gs_18 rfl bd_18_6 dX6_isWord_20 (fun v10 ev10 av10 bv10 => ?_)
      have zv10 : u4 = v10 := eu4.trans ev10.symm
      subst zv10
      refine z_isub F dX6_isWord_23 ?_
      refine z_aload_n F dX6_isWord_24 rfl (q := 1) rfl ?_
      refine zvs_i (i := 3) (rest := [ii (u3 - u4)]) F (kS_len l M ⟨hI, hW⟩ 3 (by decide)) cs_X6_75 (by decide) (by decide) (by decide) rfl rfl rfl (Nat.le_of_ble_eq_true rfl) dX6_isWord_25 (fun v11 M9 rv11 hI9 pv11 => ?_)
      obtain ⟨ev11, rfl⟩ := pv11
      obtain rfl : v11 = 5 := ev11.trans (show ((sbyt.getD 3 []).length : Int) = 5 from by decide)
      clear hI9
      refine z_icmp_eq (tgt := 33) F dX6_isWord_28 (by decide +kernel) (by omega) (by omega) (fun c12 => ?_) (fun c12 => ?_)
      · refine z_iconst F dX6_isWord_33 ?_
        refine z_istore_n F dX6_isWord_34 rfl (by decide) (ls' := [(2, ii 0), (0, .ref (ad 18)), (1, .ref (ad 1003))]) rfl ?_
        refine z_loc [1, 2, 0] (ls' := [(0, .ref (ad 18)), (1, .ref (ad 1003)), (2, ii 0)]) rfl ?_
        suffices key35 : ∀ (n : Nat) (y14 : Int), 0 ≤ y14 → y14 ≤ 5 → 5 - y14 < (n : Int) → Z D cy ad p l e (RMh 5) s m args below meth c A 3 0 0 Q 35 [(0, .ref (ad 18)), (1, .ref (ad 1003)), (2, ii y14)] [] M from key35 6 0 (by omega) (by omega) (by omega)
        intro n35
        induction n35 with
        | zero => intro y14 ay14 by14 hn35; exfalso; omega
        | succ n35 ih35 =>
          intro y14 ay14 by14 hn35
          refine z_iload_n F dX6_isWord_35 rfl (q := 2) rfl ?_
          refine z_aload_n F dX6_isWord_36 rfl (q := 1) rfl ?_
          refine zvs_i (i := 3) (rest := [ii y14]) F (kS_len l M ⟨hI, hW⟩ 3 (by decide)) cs_X6_75 (by decide) (by decide) (by decide) rfl rfl rfl (Nat.le_of_ble_eq_true rfl) dX6_isWord_37 (fun v15 M9 rv15 hI9 pv15 => ?_)
          obtain ⟨ev15, rfl⟩ := pv15
          obtain rfl : v15 = 5 := ev15.trans (show ((sbyt.getD 3 []).length : Int) = 5 from by decide)
          clear hI9
          refine z_icmp_ge (tgt := 70) F dX6_isWord_40 (by decide +kernel) (by omega) (by omega) (fun c16 => ?_) (fun c16 => ?_)
          · refine z_iconst F dX6_isWord_70 ?_
            exact hret _ _ 71 _ ⟨by omega, by omega⟩ ⟨hI, hW⟩ ⟨⟨by omega, by omega⟩, rfl⟩ dX6_isWord_71
          · refine z_aload_n F dX6_isWord_43 rfl (q := 0) rfl ?_
            refine rf_X6_22 F gs_18 rfl dX6_isWord_44 ?_
            refine z_aload_n F dX6_isWord_47 rfl (q := 0) rfl ?_
            refine gf_X6_57 F hI gs_18 rfl bd_18_6 dX6_isWord_48 (fun v17 ev17 av17 bv17 => ?_)
            have zv17 : u4 = v17 := eu4.trans ev17.symm
            subst zv17
            refine z_iload_n F dX6_isWord_51 rfl (q := 2) rfl ?_
            refine z_iadd F dX6_isWord_52 ?_
            have k18 : 0 ≤ (u4 + y14) ∧ (u4 + y14) ≤ 899 := by omega
            refine z_bald F hI gs_1 (by omega) (by omega) (by decide) bd_1 dX6_isWord_53 (fun v19 (ev19 : v19 = M 1 _) av19 bv19 => ?_)
            refine z_aload_n F dX6_isWord_54 rfl (q := 1) rfl ?_
            refine z_iload_n F dX6_isWord_55 rfl (q := 2) rfl ?_
            refine zvs_i (i := 3) (rest := [ii v19]) F (kS_chr l M ⟨hI, hW⟩ 3 (by decide) y14 (by omega) (show y14 < ((sbyt.getD 3 []).length : Int) from by rw [show ((sbyt.getD 3 []).length : Int) = 5 from by decide]; omega)) cs_X6_78 (by decide) (by decide) (by decide) rfl rfl rfl (Nat.le_of_ble_eq_true rfl) dX6_isWord_56 (fun v20 M9 rv20 hI9 pv20 => ?_)
            obtain ⟨⟨av20, bv20⟩, rfl⟩ := pv20
            clear hI9
            refine z_icmp_eq (tgt := 64) F dX6_isWord_59 (by decide +kernel) (by omega) (by omega) (fun c21 => ?_) (fun c21 => ?_)
            · refine z_iincN F dX6_isWord_64 (q := 2) rfl (by decide) (fun v22 ev22 => ?_)
              refine z_eq (ls' := [(2, ii v22), (0, .ref (ad 18)), (1, .ref (ad 1003))]) rfl rfl rfl ?_
              refine z_goto (tgt := 35) F dX6_isWord_67 (by decide +kernel) ?_
              refine z_loc [1, 2, 0] (ls' := [(0, .ref (ad 18)), (1, .ref (ad 1003)), (2, ii v22)]) rfl ?_
              exact ih35 v22 (by omega) (by omega) (by omega)
            · refine z_iconst F dX6_isWord_62 ?_
              exact hret _ _ 63 _ ⟨by omega, by omega⟩ ⟨hI, hW⟩ ⟨⟨by omega, by omega⟩, rfl⟩ dX6_isWord_63
      · refine z_iconst F dX6_isWord_31 ?_
        exact hret _ _ 32 _ ⟨by omega, by omega⟩ ⟨hI, hW⟩ ⟨⟨by omega, by omega⟩, rfl⟩ dX6_isWord_32
set_option maxHeartbeats 4000000 in
set_option maxRecDepth 4000 in
theorem kp_X6_isWord_18_1005 (l : Launch) (M : Mem) (hJ : Iw M) (hp0 : M 18 6 ≤ M 18 5 ∧ M 18 5 ≤ M 18 4) : CI l yX6_isWord cX6_isWord 3 (some .boolean) 5 (fun ad => [.ref (ad 18), .ref (ad 1005)]) M (fun z M' => (0 ≤ z ∧ z ≤ 1) ∧ M = M') := by
  obtain ⟨hI, hW⟩ := hJ
  refine en_z (by decide +kernel) (fun ad => by exact Nat.le_of_ble_eq_true rfl) (fun D cy ad A p e s m args below meth c Q F hret => ?_)
  refine z_eq (ls' := [(0, .ref (ad 18)), (1, .ref (ad 1005))]) rfl rfl rfl ?_
  obtain ⟨u1, eu1⟩ : ∃ v : Int, v = M 18 1 := ⟨_, rfl⟩
  have ku1 : (-2147483648) ≤ u1 ∧ u1 ≤ 2147483647 := by have := hI.at (show Bd 18 1 = (-2147483648, 2147483647) from rfl); omega
  obtain ⟨u2, eu2⟩ : ∃ v : Int, v = M 18 4 := ⟨_, rfl⟩
  have ku2 : 0 ≤ u2 ∧ u2 ≤ 900 := by have := hI.at (show Bd 18 4 = (0, 900) from rfl); omega
  obtain ⟨u3, eu3⟩ : ∃ v : Int, v = M 18 5 := ⟨_, rfl⟩
  have ku3 : 0 ≤ u3 ∧ u3 ≤ 900 := by have := hI.at (show Bd 18 5 = (0, 900) from rfl); omega
  obtain ⟨u4, eu4⟩ : ∃ v : Int, v = M 18 6 := ⟨_, rfl⟩
  have ku4 : 0 ≤ u4 ∧ u4 ≤ 900 := by have := hI.at (show Bd 18 6 = (0, 900) from rfl); omega
  refine z_aload_n F dX6_isWord_0 rfl (q := 0) rfl ?_
  refine gf_X6_36 F hI gs_18 rfl bd_18_1 dX6_isWord_1 (fun v5 ev5 av5 bv5 => ?_)
  have zv5 : u1 = v5 := eu1.trans ev5.symm
  subst zv5
  refine z_if_ne (tgt := 31) F dX6_isWord_4 (by decide +kernel) (by omega) (fun c6 => ?_) (fun c6 => ?_)
  · refine z_iconst F dX6_isWord_31 ?_
    exact hret _ _ 32 _ ⟨by omega, by omega⟩ ⟨hI, hW⟩ ⟨⟨by omega, by omega⟩, rfl⟩ dX6_isWord_32
  · refine z_aload_n F dX6_isWord_7 rfl (q := 0) rfl ?_
    refine gf_X6_48 F hI gs_18 rfl bd_18_7 dX6_isWord_8 (fun v7 ev7 av7 bv7 => ?_)
    refine z_iconst F dX6_isWord_11 ?_
    refine z_icmp_ne (tgt := 31) F dX6_isWord_12 (by decide +kernel) (by omega) (by omega) (fun c8 => ?_) (fun c8 => ?_)
    · refine z_iconst F dX6_isWord_31 ?_
      exact hret _ _ 32 _ ⟨by omega, by omega⟩ ⟨hI, hW⟩ ⟨⟨by omega, by omega⟩, rfl⟩ dX6_isWord_32
    · refine z_aload_n F dX6_isWord_15 rfl (q := 0) rfl ?_
      refine gf_X6_33 F hI gs_18 rfl bd_18_5 dX6_isWord_16 (fun v9 ev9 av9 bv9 => ?_)
      have zv9 : u3 = v9 := eu3.trans ev9.symm
      subst zv9
      refine z_aload_n F dX6_isWord_19 rfl (q := 0) rfl ?_
      refine gf_X6_57 F hI gs_18 rfl bd_18_6 dX6_isWord_20 (fun v10 ev10 av10 bv10 => ?_)
      have zv10 : u4 = v10 := eu4.trans ev10.symm
      subst zv10
      refine z_isub F dX6_isWord_23 ?_
      refine z_aload_n F dX6_isWord_24 rfl (q := 1) rfl ?_
      refine zvs_i (i := 5) (rest := [ii (u3 - u4)]) F (kS_len l M ⟨hI, hW⟩ 5 (by decide)) cs_X6_75 (by decide) (by decide) (by decide) rfl rfl rfl (Nat.le_of_ble_eq_true rfl) dX6_isWord_25 (fun v11 M9 rv11 hI9 pv11 => ?_)
      obtain ⟨ev11, rfl⟩ := pv11
      obtain rfl : v11 = 5 := ev11.trans (show ((sbyt.getD 5 []).length : Int) = 5 from by decide)
      clear hI9
      refine z_icmp_eq (tgt := 33) F dX6_isWord_28 (by decide +kernel) (by omega) (by omega) (fun c12 => ?_) (fun c12 => ?_)
      · refine z_iconst F dX6_isWord_33 ?_
        refine z_istore_n F dX6_isWord_34 rfl (by decide) (ls' := [(2, ii 0), (0, .ref (ad 18)), (1, .ref (ad 1005))]) rfl ?_
        refine z_loc [1, 2, 0] (ls' := [(0, .ref (ad 18)), (1, .ref (ad 1005)), (2, ii 0)]) rfl ?_
        suffices key35 : ∀ (n : Nat) (y14 : Int), 0 ≤ y14 → y14 ≤ 5 → 5 - y14 < (n : Int) → Z D cy ad p l e (RMh 5) s m args below meth c A 3 0 0 Q 35 [(0, .ref (ad 18)), (1, .ref (ad 1005)), (2, ii y14)] [] M from key35 6 0 (by omega) (by omega) (by omega)
        intro n35
        induction n35 with
        | zero => intro y14 ay14 by14 hn35; exfalso; omega
        | succ n35 ih35 =>
          intro y14 ay14 by14 hn35
          refine z_iload_n F dX6_isWord_35 rfl (q := 2) rfl ?_
          refine z_aload_n F dX6_isWord_36 rfl (q := 1) rfl ?_
          refine zvs_i (i := 5) (rest := [ii y14]) F (kS_len l M ⟨hI, hW⟩ 5 (by decide)) cs_X6_75 (by decide) (by decide) (by decide) rfl rfl rfl (Nat.le_of_ble_eq_true rfl) dX6_isWord_37 (fun v15 M9 rv15 hI9 pv15 => ?_)
          obtain ⟨ev15, rfl⟩ := pv15
          obtain rfl : v15 = 5 := ev15.trans (show ((sbyt.getD 5 []).length : Int) = 5 from by decide)
          clear hI9
          refine z_icmp_ge (tgt := 70) F dX6_isWord_40 (by decide +kernel) (by omega) (by omega) (fun c16 => ?_) (fun c16 => ?_)
          · refine z_iconst F dX6_isWord_70 ?_
            exact hret _ _ 71 _ ⟨by omega, by omega⟩ ⟨hI, hW⟩ ⟨⟨by omega, by omega⟩, rfl⟩ dX6_isWord_71
          · refine z_aload_n F dX6_isWord_43 rfl (q := 0) rfl ?_
            refine rf_X6_22 F gs_18 rfl dX6_isWord_44 ?_
            refine z_aload_n F dX6_isWord_47 rfl (q := 0) rfl ?_
            refine gf_X6_57 F hI gs_18 rfl bd_18_6 dX6_isWord_48 (fun v17 ev17 av17 bv17 => ?_)
            have zv17 : u4 = v17 := eu4.trans ev17.symm
            subst zv17
            refine z_iload_n F dX6_isWord_51 rfl (q := 2) rfl ?_
            refine z_iadd F dX6_isWord_52 ?_
            have k18 : 0 ≤ (u4 + y14) ∧ (u4 + y14) ≤ 899 := by omega
            refine z_bald F hI gs_1 (by omega) (by omega) (by decide) bd_1 dX6_isWord_53 (fun v19 (ev19 : v19 = M 1 _) av19 bv19 => ?_)
            refine z_aload_n F dX6_isWord_54 rfl (q := 1) rfl ?_
            refine z_iload_n F dX6_isWord_55 rfl (q := 2) rfl ?_
            refine zvs_i (i := 5) (rest := [ii v19]) F (kS_chr l M ⟨hI, hW⟩ 5 (by decide) y14 (by omega) (show y14 < ((sbyt.getD 5 []).length : Int) from by rw [show ((sbyt.getD 5 []).length : Int) = 5 from by decide]; omega)) cs_X6_78 (by decide) (by decide) (by decide) rfl rfl rfl (Nat.le_of_ble_eq_true rfl) dX6_isWord_56 (fun v20 M9 rv20 hI9 pv20 => ?_)
            obtain ⟨⟨av20, bv20⟩, rfl⟩ := pv20
            clear hI9
            refine z_icmp_eq (tgt := 64) F dX6_isWord_59 (by decide +kernel) (by omega) (by omega) (fun c21 => ?_) (fun c21 => ?_)
            · refine z_iincN F dX6_isWord_64 (q := 2) rfl (by decide) (fun v22 ev22 => ?_)
              refine z_eq (ls' := [(2, ii v22), (0, .ref (ad 18)), (1, .ref (ad 1005))]) rfl rfl rfl ?_
              refine z_goto (tgt := 35) F dX6_isWord_67 (by decide +kernel) ?_
              refine z_loc [1, 2, 0] (ls' := [(0, .ref (ad 18)), (1, .ref (ad 1005)), (2, ii v22)]) rfl ?_
              exact ih35 v22 (by omega) (by omega) (by omega)
            · refine z_iconst F dX6_isWord_62 ?_
              exact hret _ _ 63 _ ⟨by omega, by omega⟩ ⟨hI, hW⟩ ⟨⟨by omega, by omega⟩, rfl⟩ dX6_isWord_63
      · refine z_iconst F dX6_isWord_31 ?_
        exact hret _ _ 32 _ ⟨by omega, by omega⟩ ⟨hI, hW⟩ ⟨⟨by omega, by omega⟩, rfl⟩ dX6_isWord_32
set_option maxHeartbeats 4000000 in
set_option maxRecDepth 4000 in
theorem kp_X6_isWord_18_1010 (l : Launch) (M : Mem) (hJ : Iw M) (hp0 : M 18 6 ≤ M 18 5 ∧ M 18 5 ≤ M 18 4) : CI l yX6_isWord cX6_isWord 3 (some .boolean) 5 (fun ad => [.ref (ad 18), .ref (ad 1010)]) M (fun z M' => (0 ≤ z ∧ z ≤ 1) ∧ M = M') := by
  obtain ⟨hI, hW⟩ := hJ
  refine en_z (by decide +kernel) (fun ad => by exact Nat.le_of_ble_eq_true rfl) (fun D cy ad A p e s m args below meth c Q F hret => ?_)
  refine z_eq (ls' := [(0, .ref (ad 18)), (1, .ref (ad 1010))]) rfl rfl rfl ?_
  obtain ⟨u1, eu1⟩ : ∃ v : Int, v = M 18 1 := ⟨_, rfl⟩
  have ku1 : (-2147483648) ≤ u1 ∧ u1 ≤ 2147483647 := by have := hI.at (show Bd 18 1 = (-2147483648, 2147483647) from rfl); omega
  obtain ⟨u2, eu2⟩ : ∃ v : Int, v = M 18 4 := ⟨_, rfl⟩
  have ku2 : 0 ≤ u2 ∧ u2 ≤ 900 := by have := hI.at (show Bd 18 4 = (0, 900) from rfl); omega
  obtain ⟨u3, eu3⟩ : ∃ v : Int, v = M 18 5 := ⟨_, rfl⟩
  have ku3 : 0 ≤ u3 ∧ u3 ≤ 900 := by have := hI.at (show Bd 18 5 = (0, 900) from rfl); omega
  obtain ⟨u4, eu4⟩ : ∃ v : Int, v = M 18 6 := ⟨_, rfl⟩
  have ku4 : 0 ≤ u4 ∧ u4 ≤ 900 := by have := hI.at (show Bd 18 6 = (0, 900) from rfl); omega
  refine z_aload_n F dX6_isWord_0 rfl (q := 0) rfl ?_
  refine gf_X6_36 F hI gs_18 rfl bd_18_1 dX6_isWord_1 (fun v5 ev5 av5 bv5 => ?_)
  have zv5 : u1 = v5 := eu1.trans ev5.symm
  subst zv5
  refine z_if_ne (tgt := 31) F dX6_isWord_4 (by decide +kernel) (by omega) (fun c6 => ?_) (fun c6 => ?_)
  · refine z_iconst F dX6_isWord_31 ?_
    exact hret _ _ 32 _ ⟨by omega, by omega⟩ ⟨hI, hW⟩ ⟨⟨by omega, by omega⟩, rfl⟩ dX6_isWord_32
  · refine z_aload_n F dX6_isWord_7 rfl (q := 0) rfl ?_
    refine gf_X6_48 F hI gs_18 rfl bd_18_7 dX6_isWord_8 (fun v7 ev7 av7 bv7 => ?_)
    refine z_iconst F dX6_isWord_11 ?_
    refine z_icmp_ne (tgt := 31) F dX6_isWord_12 (by decide +kernel) (by omega) (by omega) (fun c8 => ?_) (fun c8 => ?_)
    · refine z_iconst F dX6_isWord_31 ?_
      exact hret _ _ 32 _ ⟨by omega, by omega⟩ ⟨hI, hW⟩ ⟨⟨by omega, by omega⟩, rfl⟩ dX6_isWord_32
    · refine z_aload_n F dX6_isWord_15 rfl (q := 0) rfl ?_
      refine gf_X6_33 F hI gs_18 rfl bd_18_5 dX6_isWord_16 (fun v9 ev9 av9 bv9 => ?_)
      have zv9 : u3 = v9 := eu3.trans ev9.symm
      subst zv9
      refine z_aload_n F dX6_isWord_19 rfl (q := 0) rfl ?_
      refine gf_X6_57 F hI gs_18 rfl bd_18_6 dX6_isWord_20 (fun v10 ev10 av10 bv10 => ?_)
      have zv10 : u4 = v10 := eu4.trans ev10.symm
      subst zv10
      refine z_isub F dX6_isWord_23 ?_
      refine z_aload_n F dX6_isWord_24 rfl (q := 1) rfl ?_
      refine zvs_i (i := 10) (rest := [ii (u3 - u4)]) F (kS_len l M ⟨hI, hW⟩ 10 (by decide)) cs_X6_75 (by decide) (by decide) (by decide) rfl rfl rfl (Nat.le_of_ble_eq_true rfl) dX6_isWord_25 (fun v11 M9 rv11 hI9 pv11 => ?_)
      obtain ⟨ev11, rfl⟩ := pv11
      obtain rfl : v11 = 5 := ev11.trans (show ((sbyt.getD 10 []).length : Int) = 5 from by decide)
      clear hI9
      refine z_icmp_eq (tgt := 33) F dX6_isWord_28 (by decide +kernel) (by omega) (by omega) (fun c12 => ?_) (fun c12 => ?_)
      · refine z_iconst F dX6_isWord_33 ?_
        refine z_istore_n F dX6_isWord_34 rfl (by decide) (ls' := [(2, ii 0), (0, .ref (ad 18)), (1, .ref (ad 1010))]) rfl ?_
        refine z_loc [1, 2, 0] (ls' := [(0, .ref (ad 18)), (1, .ref (ad 1010)), (2, ii 0)]) rfl ?_
        suffices key35 : ∀ (n : Nat) (y14 : Int), 0 ≤ y14 → y14 ≤ 5 → 5 - y14 < (n : Int) → Z D cy ad p l e (RMh 5) s m args below meth c A 3 0 0 Q 35 [(0, .ref (ad 18)), (1, .ref (ad 1010)), (2, ii y14)] [] M from key35 6 0 (by omega) (by omega) (by omega)
        intro n35
        induction n35 with
        | zero => intro y14 ay14 by14 hn35; exfalso; omega
        | succ n35 ih35 =>
          intro y14 ay14 by14 hn35
          refine z_iload_n F dX6_isWord_35 rfl (q := 2) rfl ?_
          refine z_aload_n F dX6_isWord_36 rfl (q := 1) rfl ?_
          refine zvs_i (i := 10) (rest := [ii y14]) F (kS_len l M ⟨hI, hW⟩ 10 (by decide)) cs_X6_75 (by decide) (by decide) (by decide) rfl rfl rfl (Nat.le_of_ble_eq_true rfl) dX6_isWord_37 (fun v15 M9 rv15 hI9 pv15 => ?_)
          obtain ⟨ev15, rfl⟩ := pv15
          obtain rfl : v15 = 5 := ev15.trans (show ((sbyt.getD 10 []).length : Int) = 5 from by decide)
          clear hI9
          refine z_icmp_ge (tgt := 70) F dX6_isWord_40 (by decide +kernel) (by omega) (by omega) (fun c16 => ?_) (fun c16 => ?_)
          · refine z_iconst F dX6_isWord_70 ?_
            exact hret _ _ 71 _ ⟨by omega, by omega⟩ ⟨hI, hW⟩ ⟨⟨by omega, by omega⟩, rfl⟩ dX6_isWord_71
          · refine z_aload_n F dX6_isWord_43 rfl (q := 0) rfl ?_
            refine rf_X6_22 F gs_18 rfl dX6_isWord_44 ?_
            refine z_aload_n F dX6_isWord_47 rfl (q := 0) rfl ?_
            refine gf_X6_57 F hI gs_18 rfl bd_18_6 dX6_isWord_48 (fun v17 ev17 av17 bv17 => ?_)
            have zv17 : u4 = v17 := eu4.trans ev17.symm
            subst zv17
            refine z_iload_n F dX6_isWord_51 rfl (q := 2) rfl ?_
            refine z_iadd F dX6_isWord_52 ?_
            have k18 : 0 ≤ (u4 + y14) ∧ (u4 + y14) ≤ 899 := by omega
            refine z_bald F hI gs_1 (by omega) (by omega) (by decide) bd_1 dX6_isWord_53 (fun v19 (ev19 : v19 = M 1 _) av19 bv19 => ?_)
            refine z_aload_n F dX6_isWord_54 rfl (q := 1) rfl ?_
            refine z_iload_n F dX6_isWord_55 rfl (q := 2) rfl ?_
            refine zvs_i (i := 10) (rest := [ii v19]) F (kS_chr l M ⟨hI, hW⟩ 10 (by decide) y14 (by omega) (show y14 < ((sbyt.getD 10 []).length : Int) from by rw [show ((sbyt.getD 10 []).length : Int) = 5 from by decide]; omega)) cs_X6_78 (by decide) (by decide) (by decide) rfl rfl rfl (Nat.le_of_ble_eq_true rfl) dX6_isWord_56 (fun v20 M9 rv20 hI9 pv20 => ?_)
            obtain ⟨⟨av20, bv20⟩, rfl⟩ := pv20
            clear hI9
            refine z_icmp_eq (tgt := 64) F dX6_isWord_59 (by decide +kernel) (by omega) (by omega) (fun c21 => ?_) (fun c21 => ?_)
            · refine z_iincN F dX6_isWord_64 (q := 2) rfl (by decide) (fun v22 ev22 => ?_)
              refine z_eq (ls' := [(2, ii v22), (0, .ref (ad 18)), (1, .ref (ad 1010))]) rfl rfl rfl ?_
              refine z_goto (tgt := 35) F dX6_isWord_67 (by decide +kernel) ?_
              refine z_loc [1, 2, 0] (ls' := [(0, .ref (ad 18)), (1, .ref (ad 1010)), (2, ii v22)]) rfl ?_
              exact ih35 v22 (by omega) (by omega) (by omega)
            · refine z_iconst F dX6_isWord_62 ?_
              exact hret _ _ 63 _ ⟨by omega, by omega⟩ ⟨hI, hW⟩ ⟨⟨by omega, by omega⟩, rfl⟩ dX6_isWord_63
      · refine z_iconst F dX6_isWord_31 ?_
        exact hret _ _ 32 _ ⟨by omega, by omega⟩ ⟨hI, hW⟩ ⟨⟨by omega, by omega⟩, rfl⟩ dX6_isWord_32
set_option maxHeartbeats 4000000 in
set_option maxRecDepth 4000 in
theorem kp_X6_isWord_18_1013 (l : Launch) (M : Mem) (hJ : Iw M) (hp0 : M 18 6 ≤ M 18 5 ∧ M 18 5 ≤ M 18 4) : CI l yX6_isWord cX6_isWord 3 (some .boolean) 5 (fun ad => [.ref (ad 18), .ref (ad 1013)]) M (fun z M' => (0 ≤ z ∧ z ≤ 1) ∧ M = M') := by
  obtain ⟨hI, hW⟩ := hJ
  refine en_z (by decide +kernel) (fun ad => by exact Nat.le_of_ble_eq_true rfl) (fun D cy ad A p e s m args below meth c Q F hret => ?_)
  refine z_eq (ls' := [(0, .ref (ad 18)), (1, .ref (ad 1013))]) rfl rfl rfl ?_
  obtain ⟨u1, eu1⟩ : ∃ v : Int, v = M 18 1 := ⟨_, rfl⟩
  have ku1 : (-2147483648) ≤ u1 ∧ u1 ≤ 2147483647 := by have := hI.at (show Bd 18 1 = (-2147483648, 2147483647) from rfl); omega
  obtain ⟨u2, eu2⟩ : ∃ v : Int, v = M 18 4 := ⟨_, rfl⟩
  have ku2 : 0 ≤ u2 ∧ u2 ≤ 900 := by have := hI.at (show Bd 18 4 = (0, 900) from rfl); omega
  obtain ⟨u3, eu3⟩ : ∃ v : Int, v = M 18 5 := ⟨_, rfl⟩
  have ku3 : 0 ≤ u3 ∧ u3 ≤ 900 := by have := hI.at (show Bd 18 5 = (0, 900) from rfl); omega
  obtain ⟨u4, eu4⟩ : ∃ v : Int, v = M 18 6 := ⟨_, rfl⟩
  have ku4 : 0 ≤ u4 ∧ u4 ≤ 900 := by have := hI.at (show Bd 18 6 = (0, 900) from rfl); omega
  refine z_aload_n F dX6_isWord_0 rfl (q := 0) rfl ?_
  refine gf_X6_36 F hI gs_18 rfl bd_18_1 dX6_isWord_1 (fun v5 ev5 av5 bv5 => ?_)
  have zv5 : u1 = v5 := eu1.trans ev5.symm
  subst zv5
  refine z_if_ne (tgt := 31) F dX6_isWord_4 (by decide +kernel) (by omega) (fun c6 => ?_) (fun c6 => ?_)
  · refine z_iconst F dX6_isWord_31 ?_
    exact hret _ _ 32 _ ⟨by omega, by omega⟩ ⟨hI, hW⟩ ⟨⟨by omega, by omega⟩, rfl⟩ dX6_isWord_32
  · refine z_aload_n F dX6_isWord_7 rfl (q := 0) rfl ?_
    refine gf_X6_48 F hI gs_18 rfl bd_18_7 dX6_isWord_8 (fun v7 ev7 av7 bv7 => ?_)
    refine z_iconst F dX6_isWord_11 ?_
    refine z_icmp_ne (tgt := 31) F dX6_isWord_12 (by decide +kernel) (by omega) (by omega) (fun c8 => ?_) (fun c8 => ?_)
    · refine z_iconst F dX6_isWord_31 ?_
      exact hret _ _ 32 _ ⟨by omega, by omega⟩ ⟨hI, hW⟩ ⟨⟨by omega, by omega⟩, rfl⟩ dX6_isWord_32
    · refine z_aload_n F dX6_isWord_15 rfl (q := 0) rfl ?_
      refine gf_X6_33 F hI gs_18 rfl bd_18_5 dX6_isWord_16 (fun v9 ev9 av9 bv9 => ?_)
      have zv9 : u3 = v9 := eu3.trans ev9.symm
      subst zv9
      refine z_aload_n F dX6_isWord_19 rfl (q := 0) rfl ?_
      refine gf_X6_57 F hI gs_18 rfl bd_18_6 dX6_isWord_20 (fun v10 ev10 av10 bv10 => ?_)
      have zv10 : u4 = v10 := eu4.trans ev10.symm
      subst zv10
      refine z_isub F dX6_isWord_23 ?_
      refine z_aload_n F dX6_isWord_24 rfl (q := 1) rfl ?_
      refine zvs_i (i := 13) (rest := [ii (u3 - u4)]) F (kS_len l M ⟨hI, hW⟩ 13 (by decide)) cs_X6_75 (by decide) (by decide) (by decide) rfl rfl rfl (Nat.le_of_ble_eq_true rfl) dX6_isWord_25 (fun v11 M9 rv11 hI9 pv11 => ?_)
      obtain ⟨ev11, rfl⟩ := pv11
      obtain rfl : v11 = 4 := ev11.trans (show ((sbyt.getD 13 []).length : Int) = 4 from by decide)
      clear hI9
      refine z_icmp_eq (tgt := 33) F dX6_isWord_28 (by decide +kernel) (by omega) (by omega) (fun c12 => ?_) (fun c12 => ?_)
      · refine z_iconst F dX6_isWord_33 ?_
        refine z_istore_n F dX6_isWord_34 rfl (by decide) (ls' := [(2, ii 0), (0, .ref (ad 18)), (1, .ref (ad 1013))]) rfl ?_
        refine z_loc [1, 2, 0] (ls' := [(0, .ref (ad 18)), (1, .ref (ad 1013)), (2, ii 0)]) rfl ?_
        suffices key35 : ∀ (n : Nat) (y14 : Int), 0 ≤ y14 → y14 ≤ 4 → 4 - y14 < (n : Int) → Z D cy ad p l e (RMh 5) s m args below meth c A 3 0 0 Q 35 [(0, .ref (ad 18)), (1, .ref (ad 1013)), (2, ii y14)] [] M from key35 5 0 (by omega) (by omega) (by omega)
        intro n35
        induction n35 with
        | zero => intro y14 ay14 by14 hn35; exfalso; omega
        | succ n35 ih35 =>
          intro y14 ay14 by14 hn35
          refine z_iload_n F dX6_isWord_35 rfl (q := 2) rfl ?_
          refine z_aload_n F dX6_isWord_36 rfl (q := 1) rfl ?_
          refine zvs_i (i := 13) (rest := [ii y14]) F (kS_len l M ⟨hI, hW⟩ 13 (by decide)) cs_X6_75 (by decide) (by decide) (by decide) rfl rfl rfl (Nat.le_of_ble_eq_true rfl) dX6_isWord_37 (fun v15 M9 rv15 hI9 pv15 => ?_)
          obtain ⟨ev15, rfl⟩ := pv15
          obtain rfl : v15 = 4 := ev15.trans (show ((sbyt.getD 13 []).length : Int) = 4 from by decide)
          clear hI9
          refine z_icmp_ge (tgt := 70) F dX6_isWord_40 (by decide +kernel) (by omega) (by omega) (fun c16 => ?_) (fun c16 => ?_)
          · refine z_iconst F dX6_isWord_70 ?_
            exact hret _ _ 71 _ ⟨by omega, by omega⟩ ⟨hI, hW⟩ ⟨⟨by omega, by omega⟩, rfl⟩ dX6_isWord_71
          · refine z_aload_n F dX6_isWord_43 rfl (q := 0) rfl ?_
            refine rf_X6_22 F gs_18 rfl dX6_isWord_44 ?_
            refine z_aload_n F dX6_isWord_47 rfl (q := 0) rfl ?_
            refine gf_X6_57 F hI gs_18 rfl bd_18_6 dX6_isWord_48 (fun v17 ev17 av17 bv17 => ?_)
            have zv17 : u4 = v17 := eu4.trans ev17.symm
            subst zv17
            refine z_iload_n F dX6_isWord_51 rfl (q := 2) rfl ?_
            refine z_iadd F dX6_isWord_52 ?_
            have k18 : 0 ≤ (u4 + y14) ∧ (u4 + y14) ≤ 899 := by omega
            refine z_bald F hI gs_1 (by omega) (by omega) (by decide) bd_1 dX6_isWord_53 (fun v19 (ev19 : v19 = M 1 _) av19 bv19 => ?_)
            refine z_aload_n F dX6_isWord_54 rfl (q := 1) rfl ?_
            refine z_iload_n F dX6_isWord_55 rfl (q := 2) rfl ?_
            refine zvs_i (i := 13) (rest := [ii v19]) F (kS_chr l M ⟨hI, hW⟩ 13 (by decide) y14 (by omega) (show y14 < ((sbyt.getD 13 []).length : Int) from by rw [show ((sbyt.getD 13 []).length : Int) = 4 from by decide]; omega)) cs_X6_78 (by decide) (by decide) (by decide) rfl rfl rfl (Nat.le_of_ble_eq_true rfl) dX6_isWord_56 (fun v20 M9 rv20 hI9 pv20 => ?_)
            obtain ⟨⟨av20, bv20⟩, rfl⟩ := pv20
            clear hI9
            refine z_icmp_eq (tgt := 64) F dX6_isWord_59 (by decide +kernel) (by omega) (by omega) (fun c21 => ?_) (fun c21 => ?_)
            · refine z_iincN F dX6_isWord_64 (q := 2) rfl (by decide) (fun v22 ev22 => ?_)
              refine z_eq (ls' := [(2, ii v22), (0, .ref (ad 18)), (1, .ref (ad 1013))]) rfl rfl rfl ?_
              refine z_goto (tgt := 35) F dX6_isWord_67 (by decide +kernel) ?_
              refine z_loc [1, 2, 0] (ls' := [(0, .ref (ad 18)), (1, .ref (ad 1013)), (2, ii v22)]) rfl ?_
              exact ih35 v22 (by omega) (by omega) (by omega)
            · refine z_iconst F dX6_isWord_62 ?_
              exact hret _ _ 63 _ ⟨by omega, by omega⟩ ⟨hI, hW⟩ ⟨⟨by omega, by omega⟩, rfl⟩ dX6_isWord_63
      · refine z_iconst F dX6_isWord_31 ?_
        exact hret _ _ 32 _ ⟨by omega, by omega⟩ ⟨hI, hW⟩ ⟨⟨by omega, by omega⟩, rfl⟩ dX6_isWord_32
set_option maxHeartbeats 4000000 in
set_option maxRecDepth 4000 in
theorem kp_X6_takeWord_18_1013 (l : Launch) (M : Mem) (hJ : Iw M) (hp0 : M 18 6 ≤ M 18 5 ∧ M 18 5 ≤ M 18 4) : CI l yX6_takeWord cX6_takeWord 3 (some .boolean) 7 (fun ad => [.ref (ad 18), .ref (ad 1013)]) M (fun z M' => (0 ≤ z ∧ z ≤ 1) ∧ Fr [18] M M' ∧ (M' 18 4 = M 18 4 ∧ M' 18 6 ≤ M' 18 5 ∧ M' 18 5 ≤ M' 18 4 ∧ M' 18 1 = M 18 1)) := by
  obtain ⟨hI, hW⟩ := hJ
  have hF : Fr [18] M M := Fr.rf
  refine en_z (by decide +kernel) (fun ad => by exact Nat.le_of_ble_eq_true rfl) (fun D cy ad A p e s m args below meth c Q F hret => ?_)
  refine z_eq (ls' := [(0, .ref (ad 18)), (1, .ref (ad 1013))]) rfl rfl rfl ?_
  refine z_aload_n F dX6_takeWord_0 rfl (q := 0) rfl ?_
  refine z_aload_n F dX6_takeWord_1 rfl (q := 1) rfl ?_
  refine zv_i (rest := []) F (kp_X6_isWord_18_1013 l M ⟨hI, hW⟩ (by omega)) cs_X6_86 (T := TX6) (N := 9) (ci := 6) rfl gs_18 (by decide) (by decide) rfl rfl rfl (Nat.le_of_ble_eq_true rfl) dX6_takeWord_2 (fun v1 M2 rv1 hI p3 => ?_)
  obtain ⟨hI, hW⟩ := hI
  obtain ⟨⟨av1, bv1⟩, rfl⟩ := p3
  refine z_istore_n F dX6_takeWord_5 rfl (by decide) (ls' := [(2, ii v1), (0, .ref (ad 18)), (1, .ref (ad 1013))]) rfl ?_
  refine z_iload_n F dX6_takeWord_6 rfl (q := 0) rfl ?_
  refine z_if_eq (tgt := 14) F dX6_takeWord_7 (by decide +kernel) (by omega) (fun c4 => ?_) (fun c4 => ?_)
  · refine z_iload_n F dX6_takeWord_14 rfl (q := 0) rfl ?_
    exact hret _ _ 15 _ ⟨by omega, by omega⟩ ⟨hI, hW⟩ ⟨⟨by omega, by omega⟩, hF, (by omega)⟩ dX6_takeWord_15
  · refine z_aload_n F dX6_takeWord_10 rfl (q := 1) rfl ?_
    refine zv_v (rest := []) F (kp_X6_advance_18 l M ⟨hI, hW⟩ (by omega)) cs_X6_42 (T := TX6) (N := 9) (ci := 6) rfl gs_18 (by decide) (by decide) rfl rfl rfl (Nat.le_of_ble_eq_true rfl) dX6_takeWord_11 (fun M5 hI p6 => ?_)
    obtain ⟨hI, hW⟩ := hI
    obtain ⟨fp6, xp6⟩ := p6
    have hF := hF.call fp6 (by decide)
    refine z_iload_n F dX6_takeWord_14 rfl (q := 0) rfl ?_
    exact hret _ _ 15 _ ⟨by omega, by omega⟩ ⟨hI, hW⟩ ⟨⟨by omega, by omega⟩, hF, (by omega)⟩ dX6_takeWord_15
set_option maxHeartbeats 4000000 in
set_option maxRecDepth 4000 in
theorem kp_X6_isWord_18_1018 (l : Launch) (M : Mem) (hJ : Iw M) (hp0 : M 18 6 ≤ M 18 5 ∧ M 18 5 ≤ M 18 4) : CI l yX6_isWord cX6_isWord 3 (some .boolean) 5 (fun ad => [.ref (ad 18), .ref (ad 1018)]) M (fun z M' => (0 ≤ z ∧ z ≤ 1) ∧ M = M') := by
  obtain ⟨hI, hW⟩ := hJ
  refine en_z (by decide +kernel) (fun ad => by exact Nat.le_of_ble_eq_true rfl) (fun D cy ad A p e s m args below meth c Q F hret => ?_)
  refine z_eq (ls' := [(0, .ref (ad 18)), (1, .ref (ad 1018))]) rfl rfl rfl ?_
  obtain ⟨u1, eu1⟩ : ∃ v : Int, v = M 18 1 := ⟨_, rfl⟩
  have ku1 : (-2147483648) ≤ u1 ∧ u1 ≤ 2147483647 := by have := hI.at (show Bd 18 1 = (-2147483648, 2147483647) from rfl); omega
  obtain ⟨u2, eu2⟩ : ∃ v : Int, v = M 18 4 := ⟨_, rfl⟩
  have ku2 : 0 ≤ u2 ∧ u2 ≤ 900 := by have := hI.at (show Bd 18 4 = (0, 900) from rfl); omega
  obtain ⟨u3, eu3⟩ : ∃ v : Int, v = M 18 5 := ⟨_, rfl⟩
  have ku3 : 0 ≤ u3 ∧ u3 ≤ 900 := by have := hI.at (show Bd 18 5 = (0, 900) from rfl); omega
  obtain ⟨u4, eu4⟩ : ∃ v : Int, v = M 18 6 := ⟨_, rfl⟩
  have ku4 : 0 ≤ u4 ∧ u4 ≤ 900 := by have := hI.at (show Bd 18 6 = (0, 900) from rfl); omega
  refine z_aload_n F dX6_isWord_0 rfl (q := 0) rfl ?_
  refine gf_X6_36 F hI gs_18 rfl bd_18_1 dX6_isWord_1 (fun v5 ev5 av5 bv5 => ?_)
  have zv5 : u1 = v5 := eu1.trans ev5.symm
  subst zv5
  refine z_if_ne (tgt := 31) F dX6_isWord_4 (by decide +kernel) (by omega) (fun c6 => ?_) (fun c6 => ?_)
  · refine z_iconst F dX6_isWord_31 ?_
    exact hret _ _ 32 _ ⟨by omega, by omega⟩ ⟨hI, hW⟩ ⟨⟨by omega, by omega⟩, rfl⟩ dX6_isWord_32
  · refine z_aload_n F dX6_isWord_7 rfl (q := 0) rfl ?_
    refine gf_X6_48 F hI gs_18 rfl bd_18_7 dX6_isWord_8 (fun v7 ev7 av7 bv7 => ?_)
    refine z_iconst F dX6_isWord_11 ?_
    refine z_icmp_ne (tgt := 31) F dX6_isWord_12 (by decide +kernel) (by omega) (by omega) (fun c8 => ?_) (fun c8 => ?_)
    · refine z_iconst F dX6_isWord_31 ?_
      exact hret _ _ 32 _ ⟨by omega, by omega⟩ ⟨hI, hW⟩ ⟨⟨by omega, by omega⟩, rfl⟩ dX6_isWord_32
    · refine z_aload_n F dX6_isWord_15 rfl (q := 0) rfl ?_
      refine gf_X6_33 F hI gs_18 rfl bd_18_5 dX6_isWord_16 (fun v9 ev9 av9 bv9 => ?_)
      have zv9 : u3 = v9 := eu3.trans ev9.symm
      subst zv9
      refine z_aload_n F dX6_isWord_19 rfl (q := 0) rfl ?_
      refine gf_X6_57 F hI gs_18 rfl bd_18_6 dX6_isWord_20 (fun v10 ev10 av10 bv10 => ?_)
      have zv10 : u4 = v10 := eu4.trans ev10.symm
      subst zv10
      refine z_isub F dX6_isWord_23 ?_
      refine z_aload_n F dX6_isWord_24 rfl (q := 1) rfl ?_
      refine zvs_i (i := 18) (rest := [ii (u3 - u4)]) F (kS_len l M ⟨hI, hW⟩ 18 (by decide)) cs_X6_75 (by decide) (by decide) (by decide) rfl rfl rfl (Nat.le_of_ble_eq_true rfl) dX6_isWord_25 (fun v11 M9 rv11 hI9 pv11 => ?_)
      obtain ⟨ev11, rfl⟩ := pv11
      obtain rfl : v11 = 3 := ev11.trans (show ((sbyt.getD 18 []).length : Int) = 3 from by decide)
      clear hI9
      refine z_icmp_eq (tgt := 33) F dX6_isWord_28 (by decide +kernel) (by omega) (by omega) (fun c12 => ?_) (fun c12 => ?_)
      · refine z_iconst F dX6_isWord_33 ?_
        refine z_istore_n F dX6_isWord_34 rfl (by decide) (ls' := [(2, ii 0), (0, .ref (ad 18)), (1, .ref (ad 1018))]) rfl ?_
        refine z_loc [1, 2, 0] (ls' := [(0, .ref (ad 18)), (1, .ref (ad 1018)), (2, ii 0)]) rfl ?_
        suffices key35 : ∀ (n : Nat) (y14 : Int), 0 ≤ y14 → y14 ≤ 3 → 3 - y14 < (n : Int) → Z D cy ad p l e (RMh 5) s m args below meth c A 3 0 0 Q 35 [(0, .ref (ad 18)), (1, .ref (ad 1018)), (2, ii y14)] [] M from key35 4 0 (by omega) (by omega) (by omega)
        intro n35
        induction n35 with
        | zero => intro y14 ay14 by14 hn35; exfalso; omega
        | succ n35 ih35 =>
          intro y14 ay14 by14 hn35
          refine z_iload_n F dX6_isWord_35 rfl (q := 2) rfl ?_
          refine z_aload_n F dX6_isWord_36 rfl (q := 1) rfl ?_
          refine zvs_i (i := 18) (rest := [ii y14]) F (kS_len l M ⟨hI, hW⟩ 18 (by decide)) cs_X6_75 (by decide) (by decide) (by decide) rfl rfl rfl (Nat.le_of_ble_eq_true rfl) dX6_isWord_37 (fun v15 M9 rv15 hI9 pv15 => ?_)
          obtain ⟨ev15, rfl⟩ := pv15
          obtain rfl : v15 = 3 := ev15.trans (show ((sbyt.getD 18 []).length : Int) = 3 from by decide)
          clear hI9
          refine z_icmp_ge (tgt := 70) F dX6_isWord_40 (by decide +kernel) (by omega) (by omega) (fun c16 => ?_) (fun c16 => ?_)
          · refine z_iconst F dX6_isWord_70 ?_
            exact hret _ _ 71 _ ⟨by omega, by omega⟩ ⟨hI, hW⟩ ⟨⟨by omega, by omega⟩, rfl⟩ dX6_isWord_71
          · refine z_aload_n F dX6_isWord_43 rfl (q := 0) rfl ?_
            refine rf_X6_22 F gs_18 rfl dX6_isWord_44 ?_
            refine z_aload_n F dX6_isWord_47 rfl (q := 0) rfl ?_
            refine gf_X6_57 F hI gs_18 rfl bd_18_6 dX6_isWord_48 (fun v17 ev17 av17 bv17 => ?_)
            have zv17 : u4 = v17 := eu4.trans ev17.symm
            subst zv17
            refine z_iload_n F dX6_isWord_51 rfl (q := 2) rfl ?_
            refine z_iadd F dX6_isWord_52 ?_
            have k18 : 0 ≤ (u4 + y14) ∧ (u4 + y14) ≤ 899 := by omega
            refine z_bald F hI gs_1 (by omega) (by omega) (by decide) bd_1 dX6_isWord_53 (fun v19 (ev19 : v19 = M 1 _) av19 bv19 => ?_)
            refine z_aload_n F dX6_isWord_54 rfl (q := 1) rfl ?_
            refine z_iload_n F dX6_isWord_55 rfl (q := 2) rfl ?_
            refine zvs_i (i := 18) (rest := [ii v19]) F (kS_chr l M ⟨hI, hW⟩ 18 (by decide) y14 (by omega) (show y14 < ((sbyt.getD 18 []).length : Int) from by rw [show ((sbyt.getD 18 []).length : Int) = 3 from by decide]; omega)) cs_X6_78 (by decide) (by decide) (by decide) rfl rfl rfl (Nat.le_of_ble_eq_true rfl) dX6_isWord_56 (fun v20 M9 rv20 hI9 pv20 => ?_)
            obtain ⟨⟨av20, bv20⟩, rfl⟩ := pv20
            clear hI9
            refine z_icmp_eq (tgt := 64) F dX6_isWord_59 (by decide +kernel) (by omega) (by omega) (fun c21 => ?_) (fun c21 => ?_)
            · refine z_iincN F dX6_isWord_64 (q := 2) rfl (by decide) (fun v22 ev22 => ?_)
              refine z_eq (ls' := [(2, ii v22), (0, .ref (ad 18)), (1, .ref (ad 1018))]) rfl rfl rfl ?_
              refine z_goto (tgt := 35) F dX6_isWord_67 (by decide +kernel) ?_
              refine z_loc [1, 2, 0] (ls' := [(0, .ref (ad 18)), (1, .ref (ad 1018)), (2, ii v22)]) rfl ?_
              exact ih35 v22 (by omega) (by omega) (by omega)
            · refine z_iconst F dX6_isWord_62 ?_
              exact hret _ _ 63 _ ⟨by omega, by omega⟩ ⟨hI, hW⟩ ⟨⟨by omega, by omega⟩, rfl⟩ dX6_isWord_63
      · refine z_iconst F dX6_isWord_31 ?_
        exact hret _ _ 32 _ ⟨by omega, by omega⟩ ⟨hI, hW⟩ ⟨⟨by omega, by omega⟩, rfl⟩ dX6_isWord_32
set_option maxHeartbeats 4000000 in
set_option maxRecDepth 4000 in
theorem kp_X6_takeWord_18_1018 (l : Launch) (M : Mem) (hJ : Iw M) (hp0 : M 18 6 ≤ M 18 5 ∧ M 18 5 ≤ M 18 4) : CI l yX6_takeWord cX6_takeWord 3 (some .boolean) 7 (fun ad => [.ref (ad 18), .ref (ad 1018)]) M (fun z M' => (0 ≤ z ∧ z ≤ 1) ∧ Fr [18] M M' ∧ (M' 18 4 = M 18 4 ∧ M' 18 6 ≤ M' 18 5 ∧ M' 18 5 ≤ M' 18 4 ∧ M' 18 1 = M 18 1)) := by
  obtain ⟨hI, hW⟩ := hJ
  have hF : Fr [18] M M := Fr.rf
  refine en_z (by decide +kernel) (fun ad => by exact Nat.le_of_ble_eq_true rfl) (fun D cy ad A p e s m args below meth c Q F hret => ?_)
  refine z_eq (ls' := [(0, .ref (ad 18)), (1, .ref (ad 1018))]) rfl rfl rfl ?_
  refine z_aload_n F dX6_takeWord_0 rfl (q := 0) rfl ?_
  refine z_aload_n F dX6_takeWord_1 rfl (q := 1) rfl ?_
  refine zv_i (rest := []) F (kp_X6_isWord_18_1018 l M ⟨hI, hW⟩ (by omega)) cs_X6_86 (T := TX6) (N := 9) (ci := 6) rfl gs_18 (by decide) (by decide) rfl rfl rfl (Nat.le_of_ble_eq_true rfl) dX6_takeWord_2 (fun v1 M2 rv1 hI p3 => ?_)
  obtain ⟨hI, hW⟩ := hI
  obtain ⟨⟨av1, bv1⟩, rfl⟩ := p3
  refine z_istore_n F dX6_takeWord_5 rfl (by decide) (ls' := [(2, ii v1), (0, .ref (ad 18)), (1, .ref (ad 1018))]) rfl ?_
  refine z_iload_n F dX6_takeWord_6 rfl (q := 0) rfl ?_
  refine z_if_eq (tgt := 14) F dX6_takeWord_7 (by decide +kernel) (by omega) (fun c4 => ?_) (fun c4 => ?_)
  · refine z_iload_n F dX6_takeWord_14 rfl (q := 0) rfl ?_
    exact hret _ _ 15 _ ⟨by omega, by omega⟩ ⟨hI, hW⟩ ⟨⟨by omega, by omega⟩, hF, (by omega)⟩ dX6_takeWord_15
  · refine z_aload_n F dX6_takeWord_10 rfl (q := 1) rfl ?_
    refine zv_v (rest := []) F (kp_X6_advance_18 l M ⟨hI, hW⟩ (by omega)) cs_X6_42 (T := TX6) (N := 9) (ci := 6) rfl gs_18 (by decide) (by decide) rfl rfl rfl (Nat.le_of_ble_eq_true rfl) dX6_takeWord_11 (fun M5 hI p6 => ?_)
    obtain ⟨hI, hW⟩ := hI
    obtain ⟨fp6, xp6⟩ := p6
    have hF := hF.call fp6 (by decide)
    refine z_iload_n F dX6_takeWord_14 rfl (q := 0) rfl ?_
    exact hret _ _ 15 _ ⟨by omega, by omega⟩ ⟨hI, hW⟩ ⟨⟨by omega, by omega⟩, hF, (by omega)⟩ dX6_takeWord_15
set_option maxHeartbeats 4000000 in
set_option maxRecDepth 4000 in
theorem kp_X6_endLine_18 (l : Launch) (M : Mem) (hJ : Iw M) (hp0 : M 18 6 ≤ M 18 5 ∧ M 18 5 ≤ M 18 4) : CV l yX6_endLine cX6_endLine 1 none 8 (fun ad => [.ref (ad 18)]) M (fun M' => Fr [18, 19] M M' ∧ (M' 18 4 = M 18 4 ∧ M' 18 6 ≤ M' 18 5 ∧ M' 18 5 ≤ M' 18 4)) := by
  obtain ⟨hI, hW⟩ := hJ
  have hF : Fr [18, 19] M M := Fr.rf
  refine en_v (by decide +kernel) (fun ad => by exact Nat.le_of_ble_eq_true rfl) (fun D cy ad A p e s m args below meth c Q F hret => ?_)
  refine z_eq (ls' := [(0, .ref (ad 18))]) rfl rfl rfl ?_
  refine z_aload_n F dX6_endLine_0 rfl (q := 0) rfl ?_
  refine z_bipush F dX6_endLine_1 (by decide +kernel) ?_
  refine zv_v (rest := []) F (kp_X6_needSign_18 l M ⟨hI, hW⟩ 59 (by omega) (by omega) (by omega)) cs_X6_120 (T := TX6) (N := 9) (ci := 6) rfl gs_18 (by decide) (by decide) rfl rfl rfl (Nat.le_of_ble_eq_true rfl) dX6_endLine_3 (fun M1 hI p2 => ?_)
  obtain ⟨hI, hW⟩ := hI
  obtain ⟨fp2, xp2⟩ := p2
  have hF := hF.call fp2 (by decide)
  refine z_aload_n F dX6_endLine_6 rfl (q := 0) rfl ?_
  refine rf_X6_12 F gs_18 rfl dX6_endLine_7 ?_
  refine z_dup F dX6_endLine_10 rfl ?_
  refine gf_X6_124 F hI gs_19 rfl bd_19_0 dX6_endLine_11 (fun v3 ev3 av3 bv3 => ?_)
  refine z_iconst F dX6_endLine_14 ?_
  refine z_iadd F dX6_endLine_15 ?_
  refine z_wrap (fun v4 rv4 wv4 => ?_)
  refine pf_X6_124 F hI gs_19 rfl bd_19_0 rfl rfl dX6_endLine_16 (by omega) (by omega) (fun M6 hI sf5 f5 => ?_)
  have tM6_18_1 : M6 18 1 = M1 18 1 := f5 18 1 (fun q => absurd q.1 (by decide))
  have tM6_18_4 : M6 18 4 = M1 18 4 := f5 18 4 (fun q => absurd q.1 (by decide))
  have tM6_18_5 : M6 18 5 = M1 18 5 := f5 18 5 (fun q => absurd q.1 (by decide))
  have tM6_18_6 : M6 18 6 = M1 18 6 := f5 18 6 (fun q => absurd q.1 (by decide))
  have hF := hF.wr f5 (by decide) (by decide)
  have hW : WFk M6 := hW.site f5 (by decide)
  exact hret _ 19 _ ⟨hI, hW⟩ ⟨hF, (by omega)⟩ dX6_endLine_19
set_option maxRecDepth 4000 in
theorem k_X2_strike_31 (l : Launch) (M : Mem) (hJ : Iw M) : CV l yX2_strike cX2_strike 1 none 1 (fun ad => [.ref (ad 31)]) M (fun M' => Fr [31] M M') := by
  obtain ⟨hI, hW⟩ := hJ
  have hF : Fr [31] M M := Fr.rf
  refine en_v (by decide +kernel) (fun ad => by exact Nat.le_of_ble_eq_true rfl) (fun D cy ad A p e s m args below meth c Q F hret => ?_)
  refine z_eq (ls' := [(0, .ref (ad 31))]) rfl rfl rfl ?_
  refine z_aload_n F dX2_strike_0 rfl (q := 0) rfl ?_
  refine z_iconst F dX2_strike_1 ?_
  refine pf_X2_25 F hI gs_31 rfl bd_31_1 rfl rfl dX2_strike_2 (by omega) (by omega) (fun M2 hI sf1 f1 => ?_)
  have hF := hF.wr f1 (by decide) (by decide)
  have hW : WFk M2 := hW.site f1 (by decide)
  exact hret _ 5 _ ⟨hI, hW⟩ hF dX2_strike_5
set_option maxHeartbeats 4000000 in
set_option maxRecDepth 4000 in
theorem kp_X6_isWord_18_1014 (l : Launch) (M : Mem) (hJ : Iw M) (hp0 : M 18 6 ≤ M 18 5 ∧ M 18 5 ≤ M 18 4) : CI l yX6_isWord cX6_isWord 3 (some .boolean) 5 (fun ad => [.ref (ad 18), .ref (ad 1014)]) M (fun z M' => (0 ≤ z ∧ z ≤ 1) ∧ M = M') := by
  obtain ⟨hI, hW⟩ := hJ
  refine en_z (by decide +kernel) (fun ad => by exact Nat.le_of_ble_eq_true rfl) (fun D cy ad A p e s m args below meth c Q F hret => ?_)
  refine z_eq (ls' := [(0, .ref (ad 18)), (1, .ref (ad 1014))]) rfl rfl rfl ?_
  obtain ⟨u1, eu1⟩ : ∃ v : Int, v = M 18 1 := ⟨_, rfl⟩
  have ku1 : (-2147483648) ≤ u1 ∧ u1 ≤ 2147483647 := by have := hI.at (show Bd 18 1 = (-2147483648, 2147483647) from rfl); omega
  obtain ⟨u2, eu2⟩ : ∃ v : Int, v = M 18 4 := ⟨_, rfl⟩
  have ku2 : 0 ≤ u2 ∧ u2 ≤ 900 := by have := hI.at (show Bd 18 4 = (0, 900) from rfl); omega
  obtain ⟨u3, eu3⟩ : ∃ v : Int, v = M 18 5 := ⟨_, rfl⟩
  have ku3 : 0 ≤ u3 ∧ u3 ≤ 900 := by have := hI.at (show Bd 18 5 = (0, 900) from rfl); omega
  obtain ⟨u4, eu4⟩ : ∃ v : Int, v = M 18 6 := ⟨_, rfl⟩
  have ku4 : 0 ≤ u4 ∧ u4 ≤ 900 := by have := hI.at (show Bd 18 6 = (0, 900) from rfl); omega
  refine z_aload_n F dX6_isWord_0 rfl (q := 0) rfl ?_
  refine gf_X6_36 F hI gs_18 rfl bd_18_1 dX6_isWord_1 (fun v5 ev5 av5 bv5 => ?_)
  have zv5 : u1 = v5 := eu1.trans ev5.symm
  subst zv5
  refine z_if_ne (tgt := 31) F dX6_isWord_4 (by decide +kernel) (by omega) (fun c6 => ?_) (fun c6 => ?_)
  · refine z_iconst F dX6_isWord_31 ?_
    exact hret _ _ 32 _ ⟨by omega, by omega⟩ ⟨hI, hW⟩ ⟨⟨by omega, by omega⟩, rfl⟩ dX6_isWord_32
  · refine z_aload_n F dX6_isWord_7 rfl (q := 0) rfl ?_
    refine gf_X6_48 F hI gs_18 rfl bd_18_7 dX6_isWord_8 (fun v7 ev7 av7 bv7 => ?_)
    refine z_iconst F dX6_isWord_11 ?_
    refine z_icmp_ne (tgt := 31) F dX6_isWord_12 (by decide +kernel) (by omega) (by omega) (fun c8 => ?_) (fun c8 => ?_)
    · refine z_iconst F dX6_isWord_31 ?_
      exact hret _ _ 32 _ ⟨by omega, by omega⟩ ⟨hI, hW⟩ ⟨⟨by omega, by omega⟩, rfl⟩ dX6_isWord_32
    · refine z_aload_n F dX6_isWord_15 rfl (q := 0) rfl ?_
      refine gf_X6_33 F hI gs_18 rfl bd_18_5 dX6_isWord_16 (fun v9 ev9 av9 bv9 => ?_)
      have zv9 : u3 = v9 := eu3.trans ev9.symm
      subst zv9
      refine z_aload_n F dX6_isWord_19 rfl (q := 0) rfl ?_
      refine gf_X6_57 F hI gs_18 rfl bd_18_6 dX6_isWord_20 (fun v10 ev10 av10 bv10 => ?_)
      have zv10 : u4 = v10 := eu4.trans ev10.symm
      subst zv10
      refine z_isub F dX6_isWord_23 ?_
      refine z_aload_n F dX6_isWord_24 rfl (q := 1) rfl ?_
      refine zvs_i (i := 14) (rest := [ii (u3 - u4)]) F (kS_len l M ⟨hI, hW⟩ 14 (by decide)) cs_X6_75 (by decide) (by decide) (by decide) rfl rfl rfl (Nat.le_of_ble_eq_true rfl) dX6_isWord_25 (fun v11 M9 rv11 hI9 pv11 => ?_)
      obtain ⟨ev11, rfl⟩ := pv11
      obtain rfl : v11 = 4 := ev11.trans (show ((sbyt.getD 14 []).length : Int) = 4 from by decide)
      clear hI9
      refine z_icmp_eq (tgt := 33) F dX6_isWord_28 (by decide +kernel) (by omega) (by omega) (fun c12 => ?_) (fun c12 => ?_)
      · refine z_iconst F dX6_isWord_33 ?_
        refine z_istore_n F dX6_isWord_34 rfl (by decide) (ls' := [(2, ii 0), (0, .ref (ad 18)), (1, .ref (ad 1014))]) rfl ?_
        refine z_loc [1, 2, 0] (ls' := [(0, .ref (ad 18)), (1, .ref (ad 1014)), (2, ii 0)]) rfl ?_
        suffices key35 : ∀ (n : Nat) (y14 : Int), 0 ≤ y14 → y14 ≤ 4 → 4 - y14 < (n : Int) → Z D cy ad p l e (RMh 5) s m args below meth c A 3 0 0 Q 35 [(0, .ref (ad 18)), (1, .ref (ad 1014)), (2, ii y14)] [] M from key35 5 0 (by omega) (by omega) (by omega)
        intro n35
        induction n35 with
        | zero => intro y14 ay14 by14 hn35; exfalso; omega
        | succ n35 ih35 =>
          intro y14 ay14 by14 hn35
          refine z_iload_n F dX6_isWord_35 rfl (q := 2) rfl ?_
          refine z_aload_n F dX6_isWord_36 rfl (q := 1) rfl ?_
          refine zvs_i (i := 14) (rest := [ii y14]) F (kS_len l M ⟨hI, hW⟩ 14 (by decide)) cs_X6_75 (by decide) (by decide) (by decide) rfl rfl rfl (Nat.le_of_ble_eq_true rfl) dX6_isWord_37 (fun v15 M9 rv15 hI9 pv15 => ?_)
          obtain ⟨ev15, rfl⟩ := pv15
          obtain rfl : v15 = 4 := ev15.trans (show ((sbyt.getD 14 []).length : Int) = 4 from by decide)
          clear hI9
          refine z_icmp_ge (tgt := 70) F dX6_isWord_40 (by decide +kernel) (by omega) (by omega) (fun c16 => ?_) (fun c16 => ?_)
          · refine z_iconst F dX6_isWord_70 ?_
            exact hret _ _ 71 _ ⟨by omega, by omega⟩ ⟨hI, hW⟩ ⟨⟨by omega, by omega⟩, rfl⟩ dX6_isWord_71
          · refine z_aload_n F dX6_isWord_43 rfl (q := 0) rfl ?_
            refine rf_X6_22 F gs_18 rfl dX6_isWord_44 ?_
            refine z_aload_n F dX6_isWord_47 rfl (q := 0) rfl ?_
            refine gf_X6_57 F hI gs_18 rfl bd_18_6 dX6_isWord_48 (fun v17 ev17 av17 bv17 => ?_)
            have zv17 : u4 = v17 := eu4.trans ev17.symm
            subst zv17
            refine z_iload_n F dX6_isWord_51 rfl (q := 2) rfl ?_
            refine z_iadd F dX6_isWord_52 ?_
            have k18 : 0 ≤ (u4 + y14) ∧ (u4 + y14) ≤ 899 := by omega
            refine z_bald F hI gs_1 (by omega) (by omega) (by decide) bd_1 dX6_isWord_53 (fun v19 (ev19 : v19 = M 1 _) av19 bv19 => ?_)
            refine z_aload_n F dX6_isWord_54 rfl (q := 1) rfl ?_
            refine z_iload_n F dX6_isWord_55 rfl (q := 2) rfl ?_
            refine zvs_i (i := 14) (rest := [ii v19]) F (kS_chr l M ⟨hI, hW⟩ 14 (by decide) y14 (by omega) (show y14 < ((sbyt.getD 14 []).length : Int) from by rw [show ((sbyt.getD 14 []).length : Int) = 4 from by decide]; omega)) cs_X6_78 (by decide) (by decide) (by decide) rfl rfl rfl (Nat.le_of_ble_eq_true rfl) dX6_isWord_56 (fun v20 M9 rv20 hI9 pv20 => ?_)
            obtain ⟨⟨av20, bv20⟩, rfl⟩ := pv20
            clear hI9
            refine z_icmp_eq (tgt := 64) F dX6_isWord_59 (by decide +kernel) (by omega) (by omega) (fun c21 => ?_) (fun c21 => ?_)
            · refine z_iincN F dX6_isWord_64 (q := 2) rfl (by decide) (fun v22 ev22 => ?_)
              refine z_eq (ls' := [(2, ii v22), (0, .ref (ad 18)), (1, .ref (ad 1014))]) rfl rfl rfl ?_
              refine z_goto (tgt := 35) F dX6_isWord_67 (by decide +kernel) ?_
              refine z_loc [1, 2, 0] (ls' := [(0, .ref (ad 18)), (1, .ref (ad 1014)), (2, ii v22)]) rfl ?_
              exact ih35 v22 (by omega) (by omega) (by omega)
            · refine z_iconst F dX6_isWord_62 ?_
              exact hret _ _ 63 _ ⟨by omega, by omega⟩ ⟨hI, hW⟩ ⟨⟨by omega, by omega⟩, rfl⟩ dX6_isWord_63
      · refine z_iconst F dX6_isWord_31 ?_
        exact hret _ _ 32 _ ⟨by omega, by omega⟩ ⟨hI, hW⟩ ⟨⟨by omega, by omega⟩, rfl⟩ dX6_isWord_32
set_option maxHeartbeats 4000000 in
set_option maxRecDepth 4000 in
theorem kp_X6_takeWord_18_1014 (l : Launch) (M : Mem) (hJ : Iw M) (hp0 : M 18 6 ≤ M 18 5 ∧ M 18 5 ≤ M 18 4) : CI l yX6_takeWord cX6_takeWord 3 (some .boolean) 7 (fun ad => [.ref (ad 18), .ref (ad 1014)]) M (fun z M' => (0 ≤ z ∧ z ≤ 1) ∧ Fr [18] M M' ∧ (M' 18 4 = M 18 4 ∧ M' 18 6 ≤ M' 18 5 ∧ M' 18 5 ≤ M' 18 4 ∧ M' 18 1 = M 18 1)) := by
  obtain ⟨hI, hW⟩ := hJ
  have hF : Fr [18] M M := Fr.rf
  refine en_z (by decide +kernel) (fun ad => by exact Nat.le_of_ble_eq_true rfl) (fun D cy ad A p e s m args below meth c Q F hret => ?_)
  refine z_eq (ls' := [(0, .ref (ad 18)), (1, .ref (ad 1014))]) rfl rfl rfl ?_
  refine z_aload_n F dX6_takeWord_0 rfl (q := 0) rfl ?_
  refine z_aload_n F dX6_takeWord_1 rfl (q := 1) rfl ?_
  refine zv_i (rest := []) F (kp_X6_isWord_18_1014 l M ⟨hI, hW⟩ (by omega)) cs_X6_86 (T := TX6) (N := 9) (ci := 6) rfl gs_18 (by decide) (by decide) rfl rfl rfl (Nat.le_of_ble_eq_true rfl) dX6_takeWord_2 (fun v1 M2 rv1 hI p3 => ?_)
  obtain ⟨hI, hW⟩ := hI
  obtain ⟨⟨av1, bv1⟩, rfl⟩ := p3
  refine z_istore_n F dX6_takeWord_5 rfl (by decide) (ls' := [(2, ii v1), (0, .ref (ad 18)), (1, .ref (ad 1014))]) rfl ?_
  refine z_iload_n F dX6_takeWord_6 rfl (q := 0) rfl ?_
  refine z_if_eq (tgt := 14) F dX6_takeWord_7 (by decide +kernel) (by omega) (fun c4 => ?_) (fun c4 => ?_)
  · refine z_iload_n F dX6_takeWord_14 rfl (q := 0) rfl ?_
    exact hret _ _ 15 _ ⟨by omega, by omega⟩ ⟨hI, hW⟩ ⟨⟨by omega, by omega⟩, hF, (by omega)⟩ dX6_takeWord_15
  · refine z_aload_n F dX6_takeWord_10 rfl (q := 1) rfl ?_
    refine zv_v (rest := []) F (kp_X6_advance_18 l M ⟨hI, hW⟩ (by omega)) cs_X6_42 (T := TX6) (N := 9) (ci := 6) rfl gs_18 (by decide) (by decide) rfl rfl rfl (Nat.le_of_ble_eq_true rfl) dX6_takeWord_11 (fun M5 hI p6 => ?_)
    obtain ⟨hI, hW⟩ := hI
    obtain ⟨fp6, xp6⟩ := p6
    have hF := hF.call fp6 (by decide)
    refine z_iload_n F dX6_takeWord_14 rfl (q := 0) rfl ?_
    exact hret _ _ 15 _ ⟨by omega, by omega⟩ ⟨hI, hW⟩ ⟨⟨by omega, by omega⟩, hF, (by omega)⟩ dX6_takeWord_15
